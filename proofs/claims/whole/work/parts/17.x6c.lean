theorem upd_n {f : Nat → Int32} {k j : Nat} {x : Int32} (h : ¬ j = k) : upd f k x j = f j := by simp only [upd]; rw [if_neg h]
theorem upd_s {f : Nat → Int32} {k : Nat} {x : Int32} : upd f k x k = x := by simp [upd]
def zrR6 (v : Nat → Int32) (a : Nat) (bs : Int32) (j : Nat) : Int32 := if zrT (zlo v) (v 0) a = 0 then (if zic 0 23 bs = true then (if zb (v 0) (nI j) = true then (if v (10 + a) + v (10 + j) ≤ 3 then 0 else 9) else 8) else 7) else zrT (zlo v) (v 0) a
def zdR6 (v : Nat → Int32) (a : Nat) (bs : Int32) (j : Nat) : Int32 := if zrT (zlo v) (v 0) a = 0 then (if zic 0 23 bs = true then (if zb (v 0) (nI j) = true then v (10 + a) + v (10 + j) else nI j) else nI a) else zdT6 v a
/-- loops moved from a to j -/
def zmv (v : Nat → Int32) (a j : Nat) : Nat → Int32 := upd (upd (zpt (zpt v j (v (10 + a) + v (10 + j)) (if v (34 + a) ≤ v (34 + j) then v (34 + j) else v (34 + a))) a 0 0) 0 ((zpt (zpt v j (v (10 + a) + v (10 + j)) (if v (34 + a) ≤ v (34 + j) then v (34 + j) else v (34 + a))) a 0 0) 0 &&& ((1 <<< (nI a &&& 31)) ^^^ (-1)))) 1 ((upd (zpt (zpt v j (v (10 + a) + v (10 + j)) (if v (34 + a) ≤ v (34 + j) then v (34 + j) else v (34 + a))) a 0 0) 0 ((zpt (zpt v j (v (10 + a) + v (10 + j)) (if v (34 + a) ≤ v (34 + j) then v (34 + j) else v (34 + a))) a 0 0) 0 &&& ((1 <<< (nI a &&& 31)) ^^^ (-1)))) 1 &&& ((1 <<< (nI a &&& 31)) ^^^ (-1)))
def zkn6 (v : Nat → Int32) (rw cq k : Nat) : Bool := (decide (rw = 0) || zb (v (62 + cq % rw)) (nI k - nI k / 8 * 8)) && zb (v 0) (nI k) && !zb (v 1) (nI k) && !decide (v (10 + k) ≤ 0)
def zwd6 (v : Nat → Int32) (rw cq : Nat) : Nat → Int32
  | 0 => 0
  | k + 1 => if zkn6 v rw cq k = true then zwd6 v rw cq k + 1 else zwd6 v rw cq k
def zst6 (v : Nat → Int32) (rw cq : Nat) : Nat → Int32
  | 0 => 0
  | k + 1 => zst6 v rw cq k ||| (if zkn6 v rw cq k = true then 1 <<< (nI k &&& 31) else 0)
def zpsX (st : Int32) (w : Nat → Int32) (k : Nat) : Bool := decide ((st >>> (nI k &&& 31)) &&& 1 = 0) && decide (w (34 + k) + 1 = 6) && !decide (w (10 + k) ≤ 0)
def zpsV (st : Int32) (v : Nat → Int32) : Nat → (Nat → Int32)
  | 0 => v
  | k + 1 => if (st >>> (nI k &&& 31)) &&& 1 = 1 then zpt (zpsV st v k) k 1 0 else zpt (zpsV st v k) k (if zpsX st (zpsV st v k) k = true then 0 else zpsV st v k (10 + k)) (zpsV st v k (34 + k) + 1)
def zpsD (st : Int32) (v : Nat → Int32) : Nat → Int32
  | 0 => 0
  | k + 1 => zpsD st v k + (if zpsX st (zpsV st v k) k = true then zpsV st v k (10 + k) else 0)
def zrc6 (v : Nat → Int32) (ac rw cn : Nat) : Int32 := if cn = 30 then 13 else if zwd6 v rw cn 24 = 0 then 14 else if zwd6 v rw cn 24 * v 3 ≤ v (58 + ac) then 0 else 10
def zdc6 (v : Nat → Int32) (rw cn : Nat) : Int32 := if cn = 30 then 30 else if zwd6 v rw cn 24 = 0 then nI cn else zwd6 v rw cn 24 * v 3
abbrev rmX6_moves_ok : Room := { frames := 2, cells := 0, slots := 0, locals := 42 }
set_option maxHeartbeats 4000000 in
set_option maxRecDepth 100000 in
theorem c_X6_moves_ok {G : zG} (hg : zGN G) (l : Launch) (D : va_G) (cy : Nat → ClassId) (x9 : Nat) (th : Int32) (ch : Nat) (era : Int32) (why : Int32) (det : Int32) (cau : Int32) (sv : Bool) (rj : Bool) (v9 : Nat) (b9 : Nat) (s9 : Nat) (k9 : Nat) (p9 : Nat) (t9 : Nat) (n9 : Nat) (tn : Nat) (he : Nat) (en : Nat) (ln : Nat) (iw : Bool) (dg : Bool) (v : Nat → Int32) (a : Nat) (by6 : Int32) (bs : Int32) (j : Nat) (ha : a < 24) (hbs : nI a + by6 = bs) (hbj : zic 0 23 bs = true → bs = nI j ∧ j < 24) (hr0 : zrR6 v a bs j = 0) : zM G D vwCl (zT cy) l yX6_moves wsX6_moves rmX6_moves_ok [.ref x9, .int (nI a), .int by6] [(x9, .inr (10, [.int th, .int (nI ch), .int era, .int why, .int det, .int cau, .int (zI sv), .int (zI rj), .ref v9, .ref b9, .ref s9, .ref k9, .ref p9, .ref t9, .ref n9, .int (nI tn), .int (nI he), .int (nI en), .int (nI ln), .int (zI iw), .int (zI dg)])), (v9, .inl (cy 0, 188, .inl v))] (some (.int (v (10 + a) + v (10 + j)))) [(x9, .inr (10, [.int th, .int (nI ch), .int era, .int why, .int det, .int cau, .int (zI sv), .int (zI rj), .ref v9, .ref b9, .ref s9, .ref k9, .ref p9, .ref t9, .ref n9, .int (nI tn), .int (nI he), .int (nI en), .int (nI ln), .int (zI iw), .int (zI dg)])), (v9, .inl (cy 0, 188, .inl (zmv v a j)))] := by
  refine zM_of (cc := cX6_moves) (maxL := 5) (ret := (some .int)) (by decide) rfl (Nat.le_of_ble_eq_true rfl) ?_
  intro p e s m below meth c A Q hend hx hb hml hr hts hown hlk hG hK hP hD hA hS ls hl
  have hown : s.vm.findClass RX6 = some m.cls := hown
  have in_RX6 : ∀ w ∈ u_ws RX6 TX6 21, w ∈ wsX6_moves := by decide +kernel
  have hl : lv_has ls 5 [(0, .ref x9), (1, .int (nI a)), (2, .int by6)] := hl
  refine lv_iload_n hx hb dX6_moves_0 rfl (lv_at hl 1 rfl) ?_
  refine zcS (As := [.int (nI a)]) (rest := []) [] hg.1 ⟨hx, hb, hml, hown, hts⟩ (c_X6_isNeedle hg l D cy (nI a)) (va_cwS 1 hts gX6_moves_X6_isNeedle rfl rfl rfl (by decide +kernel) ⟨Nat.le_of_ble_eq_true rfl, Nat.le_of_ble_eq_true rfl⟩) hG hK hP hD hS hA rfl rfl rfl  rfl hl.1 rfl (Nat.le_of_ble_eq_true rfl) dX6_moves_1 ⟨Nat.zero_le _, Nat.zero_le _⟩ (fun H locs hP hD hS => ?_)
  have hP : va_P D vwCl [(x9, .inr (10, [.int th, .int (nI ch), .int era, .int why, .int det, .int cau, .int (zI sv), .int (zI rj), .ref v9, .ref b9, .ref s9, .ref k9, .ref p9, .ref t9, .ref n9, .int (nI tn), .int (nI he), .int (nI en), .int (nI ln), .int (zI iw), .int (zI dg)])), (v9, .inl (cy 0, 188, .inl v))] H := hP
  have hD : va_D A [(x9, .inr (10, [.int th, .int (nI ch), .int era, .int why, .int det, .int cau, .int (zI sv), .int (zI rj), .ref v9, .ref b9, .ref s9, .ref k9, .ref p9, .ref t9, .ref n9, .int (nI tn), .int (nI he), .int (nI en), .int (nI ln), .int (zI iw), .int (zI dg)])), (v9, .inl (cy 0, 188, .inl v))] := hD
  refine lv_if_ne (tgt := 13) hx hb dX6_moves_4 (by decide) (fun c_1 => ?_) (fun c_1 => ?_)
  · replace c_1 := zI1 c_1
    refine lv_aload_n hx hb dX6_moves_13 rfl (lv_at hl 0 rfl) ?_
    refine lv_iload_n hx hb dX6_moves_14 rfl (lv_at hl 1 rfl) ?_
    refine zcV (As := [.int (nI a)]) (rest := []) [0, 1] 0 hg.1 ⟨hx, hb, hml, hown, hts⟩ (c_X6_isOn hg l D cy x9 th ch era why det cau sv rj v9 b9 s9 k9 p9 t9 n9 tn he en ln iw dg v (nI a)) (cwV 1 hts gX6_moves_X6_isOn rfl rfl rfl (by decide +kernel) ⟨Nat.le_of_ble_eq_true rfl, Nat.le_of_ble_eq_true rfl⟩) hG hK hP hD hS hA rfl rfl rfl rfl rfl rfl hl.1 rfl (Nat.le_of_ble_eq_true rfl) dX6_moves_15 ⟨Nat.zero_le _, Nat.zero_le _⟩ (fun H locs hP hD hS => ?_)
    have hP : va_P D vwCl [(x9, .inr (10, [.int th, .int (nI ch), .int era, .int why, .int det, .int cau, .int (zI sv), .int (zI rj), .ref v9, .ref b9, .ref s9, .ref k9, .ref p9, .ref t9, .ref n9, .int (nI tn), .int (nI he), .int (nI en), .int (nI ln), .int (zI iw), .int (zI dg)])), (v9, .inl (cy 0, 188, .inl v))] H := hP
    have hD : va_D A [(x9, .inr (10, [.int th, .int (nI ch), .int era, .int why, .int det, .int cau, .int (zI sv), .int (zI rj), .ref v9, .ref b9, .ref s9, .ref k9, .ref p9, .ref t9, .ref n9, .int (nI tn), .int (nI he), .int (nI en), .int (nI ln), .int (zI iw), .int (zI dg)])), (v9, .inl (cy 0, 188, .inl v))] := hD
    refine lv_if_ne (tgt := 29) hx hb dX6_moves_18 (by decide) (fun c_2 => ?_) (fun c_2 => ?_)
    · replace c_2 := zI1 c_2
      refine lv_aload_n hx hb dX6_moves_29 rfl (lv_at hl 0 rfl) ?_
      refine va_get (D := D) (ci := 10) (v := .ref v9) (C := RX6) (T := TX6) (N := 21) hx hb hts in_RX6 hown hK hP 0 rfl rfl 8 (by decide) (hts _ (List.mem_of_getElem? (i := 1) rfl)) (fun _ h9 => h9) rfl dX6_moves_30 ?_
      refine lv_bipush (v := 10) hx hb dX6_moves_33 (by decide) ?_
      refine lv_iload_n hx hb dX6_moves_35 rfl (lv_at hl 1 rfl) ?_
      refine lv_iadd hx hb dX6_moves_36 ?_
      refine z_top (y := nI (10 + a)) (nI_add 10 a) ?_
      refine ziald 1 0 (10 + a) hx hb hK hP rfl rfl (by omega) (z_lt rfl) dX6_moves_37 ?_
      refine lv_if_ne (tgt := 57) hx hb dX6_moves_38 (by decide) (fun c_3 => ?_) (fun c_3 => ?_)
      · refine lv_iload_n hx hb dX6_moves_57 rfl (lv_at hl 1 rfl) ?_
        refine lv_iload_n hx hb dX6_moves_58 rfl (lv_at hl 2 rfl) ?_
        refine lv_iadd hx hb dX6_moves_59 ?_
        refine z_top (y := bs) (hbs) ?_
        refine lv_istore_n (lv' := [(3, .int bs), (0, .ref x9), (1, .int (nI a)), (2, .int by6)]) hx hb dX6_moves_60 rfl hl (by decide) rfl (fun ls hl => ?_)
        refine lv_iload_n hx hb dX6_moves_61 rfl (lv_at hl 0 rfl) ?_
        refine zcS (As := [.int bs]) (rest := []) [] hg.1 ⟨hx, hb, hml, hown, hts⟩ (c_X6_isNeedle hg l D cy bs) (va_cwS 1 hts gX6_moves_X6_isNeedle rfl rfl rfl (by decide +kernel) ⟨Nat.le_of_ble_eq_true rfl, Nat.le_of_ble_eq_true rfl⟩) hG hK hP hD hS hA rfl rfl rfl  rfl hl.1 rfl (Nat.le_of_ble_eq_true rfl) dX6_moves_62 ⟨Nat.zero_le _, Nat.zero_le _⟩ (fun H locs hP hD hS => ?_)
        have hP : va_P D vwCl [(x9, .inr (10, [.int th, .int (nI ch), .int era, .int why, .int det, .int cau, .int (zI sv), .int (zI rj), .ref v9, .ref b9, .ref s9, .ref k9, .ref p9, .ref t9, .ref n9, .int (nI tn), .int (nI he), .int (nI en), .int (nI ln), .int (zI iw), .int (zI dg)])), (v9, .inl (cy 0, 188, .inl v))] H := hP
        have hD : va_D A [(x9, .inr (10, [.int th, .int (nI ch), .int era, .int why, .int det, .int cau, .int (zI sv), .int (zI rj), .ref v9, .ref b9, .ref s9, .ref k9, .ref p9, .ref t9, .ref n9, .int (nI tn), .int (nI he), .int (nI en), .int (nI ln), .int (zI iw), .int (zI dg)])), (v9, .inl (cy 0, 188, .inl v))] := hD
        refine lv_if_ne (tgt := 77) hx hb dX6_moves_65 (by decide) (fun c_4 => ?_) (fun c_4 => ?_)
        · replace c_4 := zI1 c_4
          obtain ⟨ebs, hj⟩ := hbj c_4
          subst ebs
          refine lv_aload_n hx hb dX6_moves_77 rfl (lv_at hl 1 rfl) ?_
          refine lv_iload_n hx hb dX6_moves_78 rfl (lv_at hl 0 rfl) ?_
          refine zcV (As := [.int (nI j)]) (rest := []) [0, 1] 0 hg.1 ⟨hx, hb, hml, hown, hts⟩ (c_X6_isOn hg l D cy x9 th ch era why det cau sv rj v9 b9 s9 k9 p9 t9 n9 tn he en ln iw dg v (nI j)) (cwV 1 hts gX6_moves_X6_isOn rfl rfl rfl (by decide +kernel) ⟨Nat.le_of_ble_eq_true rfl, Nat.le_of_ble_eq_true rfl⟩) hG hK hP hD hS hA rfl rfl rfl rfl rfl rfl hl.1 rfl (Nat.le_of_ble_eq_true rfl) dX6_moves_79 ⟨Nat.zero_le _, Nat.zero_le _⟩ (fun H locs hP hD hS => ?_)
          have hP : va_P D vwCl [(x9, .inr (10, [.int th, .int (nI ch), .int era, .int why, .int det, .int cau, .int (zI sv), .int (zI rj), .ref v9, .ref b9, .ref s9, .ref k9, .ref p9, .ref t9, .ref n9, .int (nI tn), .int (nI he), .int (nI en), .int (nI ln), .int (zI iw), .int (zI dg)])), (v9, .inl (cy 0, 188, .inl v))] H := hP
          have hD : va_D A [(x9, .inr (10, [.int th, .int (nI ch), .int era, .int why, .int det, .int cau, .int (zI sv), .int (zI rj), .ref v9, .ref b9, .ref s9, .ref k9, .ref p9, .ref t9, .ref n9, .int (nI tn), .int (nI he), .int (nI en), .int (nI ln), .int (zI iw), .int (zI dg)])), (v9, .inl (cy 0, 188, .inl v))] := hD
          refine lv_if_ne (tgt := 94) hx hb dX6_moves_82 (by decide) (fun c_5 => ?_) (fun c_5 => ?_)
          · replace c_5 := zI1 c_5
            refine lv_aload_n hx hb dX6_moves_94 rfl (lv_at hl 1 rfl) ?_
            refine va_get (D := D) (ci := 10) (v := .ref v9) (C := RX6) (T := TX6) (N := 21) hx hb hts in_RX6 hown hK hP 0 rfl rfl 8 (by decide) (hts _ (List.mem_of_getElem? (i := 1) rfl)) (fun _ h9 => h9) rfl dX6_moves_95 ?_
            refine lv_bipush (v := 10) hx hb dX6_moves_98 (by decide) ?_
            refine lv_iload_n hx hb dX6_moves_100 rfl (lv_at hl 2 rfl) ?_
            refine lv_iadd hx hb dX6_moves_101 ?_
            refine z_top (y := nI (10 + a)) (nI_add 10 a) ?_
            refine ziald 1 0 (10 + a) hx hb hK hP rfl rfl (by omega) (z_lt rfl) dX6_moves_102 ?_
            refine lv_aload_n hx hb dX6_moves_103 rfl (lv_at hl 1 rfl) ?_
            refine va_get (D := D) (ci := 10) (v := .ref v9) (C := RX6) (T := TX6) (N := 21) hx hb hts in_RX6 hown hK hP 0 rfl rfl 8 (by decide) (hts _ (List.mem_of_getElem? (i := 1) rfl)) (fun _ h9 => h9) rfl dX6_moves_104 ?_
            refine lv_bipush (v := 10) hx hb dX6_moves_107 (by decide) ?_
            refine lv_iload_n hx hb dX6_moves_109 rfl (lv_at hl 0 rfl) ?_
            refine lv_iadd hx hb dX6_moves_110 ?_
            refine z_top (y := nI (10 + j)) (nI_add 10 j) ?_
            refine ziald 1 0 (10 + j) hx hb hK hP rfl rfl (by omega) (z_lt rfl) dX6_moves_111 ?_
            refine lv_iadd hx hb dX6_moves_112 ?_
            refine lv_istore (lv' := [(4, .int ((v (10 + a)) + (v (10 + j)))), (3, .int (nI j)), (0, .ref x9), (1, .int (nI a)), (2, .int by6)]) hx hb dX6_moves_113 hl (by decide) rfl (fun ls hl => ?_)
            refine lv_iload hx hb dX6_moves_115 (lv_at hl 0 rfl) ?_
            refine lv_iconst (v := 3) hx hb dX6_moves_117 (by decide) ?_
            refine lv_icmp_le (tgt := 131) hx hb dX6_moves_118 (by decide) (fun c_6 => ?_) (fun c_6 => ?_)
            · refine lv_aload_n hx hb dX6_moves_131 rfl (lv_at hl 2 rfl) ?_
              refine lv_iload_n hx hb dX6_moves_132 rfl (lv_at hl 1 rfl) ?_
              refine lv_iload hx hb dX6_moves_133 (lv_at hl 0 rfl) ?_
              refine lv_aload_n hx hb dX6_moves_135 rfl (lv_at hl 2 rfl) ?_
              refine va_get (D := D) (ci := 10) (v := .ref v9) (C := RX6) (T := TX6) (N := 21) hx hb hts in_RX6 hown hK hP 0 rfl rfl 8 (by decide) (hts _ (List.mem_of_getElem? (i := 1) rfl)) (fun _ h9 => h9) rfl dX6_moves_136 ?_
              refine lv_bipush (v := 34) hx hb dX6_moves_139 (by decide) ?_
              refine lv_iload_n hx hb dX6_moves_141 rfl (lv_at hl 3 rfl) ?_
              refine lv_iadd hx hb dX6_moves_142 ?_
              refine z_top (y := nI (34 + a)) (nI_add 34 a) ?_
              refine ziald 1 0 (34 + a) hx hb hK hP rfl rfl (by omega) (z_lt rfl) dX6_moves_143 ?_
              refine lv_aload_n hx hb dX6_moves_144 rfl (lv_at hl 2 rfl) ?_
              refine va_get (D := D) (ci := 10) (v := .ref v9) (C := RX6) (T := TX6) (N := 21) hx hb hts in_RX6 hown hK hP 0 rfl rfl 8 (by decide) (hts _ (List.mem_of_getElem? (i := 1) rfl)) (fun _ h9 => h9) rfl dX6_moves_145 ?_
              refine lv_bipush (v := 34) hx hb dX6_moves_148 (by decide) ?_
              refine lv_iload_n hx hb dX6_moves_150 rfl (lv_at hl 1 rfl) ?_
              refine lv_iadd hx hb dX6_moves_151 ?_
              refine z_top (y := nI (34 + j)) (nI_add 34 j) ?_
              refine ziald 1 0 (34 + j) hx hb hK hP rfl rfl (by omega) (z_lt rfl) dX6_moves_152 ?_
              refine lv_icmp_le (tgt := 168) hx hb dX6_moves_153 (by decide) (fun c_7 => ?_) (fun c_7 => ?_)
              · refine lv_aload_n hx hb dX6_moves_168 rfl (lv_at hl 2 rfl) ?_
                refine va_get (D := D) (ci := 10) (v := .ref v9) (C := RX6) (T := TX6) (N := 21) hx hb hts in_RX6 hown hK hP 0 rfl rfl 8 (by decide) (hts _ (List.mem_of_getElem? (i := 1) rfl)) (fun _ h9 => h9) rfl dX6_moves_169 ?_
                refine lv_bipush (v := 34) hx hb dX6_moves_172 (by decide) ?_
                refine lv_iload_n hx hb dX6_moves_174 rfl (lv_at hl 1 rfl) ?_
                refine lv_iadd hx hb dX6_moves_175 ?_
                refine z_top (y := nI (34 + j)) (nI_add 34 j) ?_
                refine ziald 1 0 (34 + j) hx hb hK hP rfl rfl (by omega) (z_lt rfl) dX6_moves_176 ?_
                refine zcV (As := [.int (nI j), .int ((v (10 + a)) + (v (10 + j))), .int (v (34 + j))]) (rest := []) [0, 1] 0 hg.1 ⟨hx, hb, hml, hown, hts⟩ (c_X6_puts hg l D cy x9 th ch era why det cau sv rj v9 b9 s9 k9 p9 t9 n9 tn he en ln iw dg v j ((v (10 + a)) + (v (10 + j))) (v (34 + j)) (by first | assumption | omega)) (cwV 3 hts gX6_moves_X6_puts rfl rfl rfl (by decide +kernel) ⟨Nat.le_of_ble_eq_true rfl, Nat.le_of_ble_eq_true rfl⟩) hG hK hP hD hS hA rfl rfl (Eq.trans (b := [x9, v9]) rfl rfl) rfl rfl rfl hl.1 rfl (Nat.le_of_ble_eq_true rfl) dX6_moves_177 ⟨Nat.zero_le _, Nat.zero_le _⟩ (fun H locs hP hD hS => ?_)
                have hP : va_P D vwCl [(x9, .inr (10, [.int th, .int (nI ch), .int era, .int why, .int det, .int cau, .int (zI sv), .int (zI rj), .ref v9, .ref b9, .ref s9, .ref k9, .ref p9, .ref t9, .ref n9, .int (nI tn), .int (nI he), .int (nI en), .int (nI ln), .int (zI iw), .int (zI dg)])), (v9, .inl (cy 0, 188, .inl (zpt v j ((v (10 + a)) + (v (10 + j))) (v (34 + j)))))] H := hP
                have hD : va_D A [(x9, .inr (10, [.int th, .int (nI ch), .int era, .int why, .int det, .int cau, .int (zI sv), .int (zI rj), .ref v9, .ref b9, .ref s9, .ref k9, .ref p9, .ref t9, .ref n9, .int (nI tn), .int (nI he), .int (nI en), .int (nI ln), .int (zI iw), .int (zI dg)])), (v9, .inl (cy 0, 188, .inl (zpt v j ((v (10 + a)) + (v (10 + j))) (v (34 + j)))))] := hD
                refine lv_aload_n hx hb dX6_moves_180 rfl (lv_at hl 2 rfl) ?_
                refine lv_iload_n hx hb dX6_moves_181 rfl (lv_at hl 3 rfl) ?_
                refine lv_iconst (v := 0) hx hb dX6_moves_182 (by decide) ?_
                refine lv_iconst (v := 0) hx hb dX6_moves_183 (by decide) ?_
                refine zcV (As := [.int (nI a), .int 0, .int 0]) (rest := []) [0, 1] 0 hg.1 ⟨hx, hb, hml, hown, hts⟩ (c_X6_puts hg l D cy x9 th ch era why det cau sv rj v9 b9 s9 k9 p9 t9 n9 tn he en ln iw dg (zpt v j ((v (10 + a)) + (v (10 + j))) (v (34 + j))) a 0 0 (by first | assumption | omega)) (cwV 3 hts gX6_moves_X6_puts rfl rfl rfl (by decide +kernel) ⟨Nat.le_of_ble_eq_true rfl, Nat.le_of_ble_eq_true rfl⟩) hG hK hP hD hS hA rfl rfl (Eq.trans (b := [x9, v9]) rfl rfl) rfl rfl rfl hl.1 rfl (Nat.le_of_ble_eq_true rfl) dX6_moves_184 ⟨Nat.zero_le _, Nat.zero_le _⟩ (fun H locs hP hD hS => ?_)
                have hP : va_P D vwCl [(x9, .inr (10, [.int th, .int (nI ch), .int era, .int why, .int det, .int cau, .int (zI sv), .int (zI rj), .ref v9, .ref b9, .ref s9, .ref k9, .ref p9, .ref t9, .ref n9, .int (nI tn), .int (nI he), .int (nI en), .int (nI ln), .int (zI iw), .int (zI dg)])), (v9, .inl (cy 0, 188, .inl (zpt (zpt v j ((v (10 + a)) + (v (10 + j))) (v (34 + j))) a 0 0)))] H := hP
                have hD : va_D A [(x9, .inr (10, [.int th, .int (nI ch), .int era, .int why, .int det, .int cau, .int (zI sv), .int (zI rj), .ref v9, .ref b9, .ref s9, .ref k9, .ref p9, .ref t9, .ref n9, .int (nI tn), .int (nI he), .int (nI en), .int (nI ln), .int (zI iw), .int (zI dg)])), (v9, .inl (cy 0, 188, .inl (zpt (zpt v j ((v (10 + a)) + (v (10 + j))) (v (34 + j))) a 0 0)))] := hD
                refine lv_aload_n hx hb dX6_moves_187 rfl (lv_at hl 2 rfl) ?_
                refine va_get (D := D) (ci := 10) (v := .ref v9) (C := RX6) (T := TX6) (N := 21) hx hb hts in_RX6 hown hK hP 0 rfl rfl 8 (by decide) (hts _ (List.mem_of_getElem? (i := 1) rfl)) (fun _ h9 => h9) rfl dX6_moves_188 ?_
                refine lv_iconst (v := 0) hx hb dX6_moves_191 (by decide) ?_
                refine lv_dup2_11 hx hb dX6_moves_192 rfl rfl ?_
                refine ziald 1 0 0 hx hb hK hP rfl rfl (by omega) (z_lt rfl) dX6_moves_193 ?_
                refine lv_iconst (v := 1) hx hb dX6_moves_194 (by decide) ?_
                refine lv_iload_n hx hb dX6_moves_195 rfl (lv_at hl 3 rfl) ?_
                refine lv_ishl hx hb dX6_moves_196 ?_
                refine lv_iconst (v := (-1)) hx hb dX6_moves_197 (by decide) ?_
                refine lv_ixor hx hb dX6_moves_198 ?_
                refine lv_iand hx hb dX6_moves_199 ?_
                refine ziast 1 0 0 hx hb hK hP hD hS rfl rfl (by omega) (z_lt rfl) dX6_moves_200 (fun H locs hP hD hS => ?_)
                have hP : va_P D vwCl [(x9, .inr (10, [.int th, .int (nI ch), .int era, .int why, .int det, .int cau, .int (zI sv), .int (zI rj), .ref v9, .ref b9, .ref s9, .ref k9, .ref p9, .ref t9, .ref n9, .int (nI tn), .int (nI he), .int (nI en), .int (nI ln), .int (zI iw), .int (zI dg)])), (v9, .inl (cy 0, 188, .inl (upd (zpt (zpt v j ((v (10 + a)) + (v (10 + j))) (v (34 + j))) a 0 0) 0 (((zpt (zpt v j ((v (10 + a)) + (v (10 + j))) (v (34 + j))) a 0 0) 0) &&& ((1 <<< ((nI a) &&& 31)) ^^^ (-1))))))] H := hP
                have hD : va_D A [(x9, .inr (10, [.int th, .int (nI ch), .int era, .int why, .int det, .int cau, .int (zI sv), .int (zI rj), .ref v9, .ref b9, .ref s9, .ref k9, .ref p9, .ref t9, .ref n9, .int (nI tn), .int (nI he), .int (nI en), .int (nI ln), .int (zI iw), .int (zI dg)])), (v9, .inl (cy 0, 188, .inl (upd (zpt (zpt v j ((v (10 + a)) + (v (10 + j))) (v (34 + j))) a 0 0) 0 (((zpt (zpt v j ((v (10 + a)) + (v (10 + j))) (v (34 + j))) a 0 0) 0) &&& ((1 <<< ((nI a) &&& 31)) ^^^ (-1))))))] := hD
                refine lv_aload_n hx hb dX6_moves_201 rfl (lv_at hl 2 rfl) ?_
                refine va_get (D := D) (ci := 10) (v := .ref v9) (C := RX6) (T := TX6) (N := 21) hx hb hts in_RX6 hown hK hP 0 rfl rfl 8 (by decide) (hts _ (List.mem_of_getElem? (i := 1) rfl)) (fun _ h9 => h9) rfl dX6_moves_202 ?_
                refine lv_iconst (v := 1) hx hb dX6_moves_205 (by decide) ?_
                refine lv_dup2_11 hx hb dX6_moves_206 rfl rfl ?_
                refine ziald 1 0 1 hx hb hK hP rfl rfl (by omega) (z_lt rfl) dX6_moves_207 ?_
                refine lv_iconst (v := 1) hx hb dX6_moves_208 (by decide) ?_
                refine lv_iload_n hx hb dX6_moves_209 rfl (lv_at hl 3 rfl) ?_
                refine lv_ishl hx hb dX6_moves_210 ?_
                refine lv_iconst (v := (-1)) hx hb dX6_moves_211 (by decide) ?_
                refine lv_ixor hx hb dX6_moves_212 ?_
                refine lv_iand hx hb dX6_moves_213 ?_
                refine ziast 1 0 1 hx hb hK hP hD hS rfl rfl (by omega) (z_lt rfl) dX6_moves_214 (fun H locs hP hD hS => ?_)
                have hP : va_P D vwCl [(x9, .inr (10, [.int th, .int (nI ch), .int era, .int why, .int det, .int cau, .int (zI sv), .int (zI rj), .ref v9, .ref b9, .ref s9, .ref k9, .ref p9, .ref t9, .ref n9, .int (nI tn), .int (nI he), .int (nI en), .int (nI ln), .int (zI iw), .int (zI dg)])), (v9, .inl (cy 0, 188, .inl (upd (upd (zpt (zpt v j ((v (10 + a)) + (v (10 + j))) (v (34 + j))) a 0 0) 0 (((zpt (zpt v j ((v (10 + a)) + (v (10 + j))) (v (34 + j))) a 0 0) 0) &&& ((1 <<< ((nI a) &&& 31)) ^^^ (-1)))) 1 (((upd (zpt (zpt v j ((v (10 + a)) + (v (10 + j))) (v (34 + j))) a 0 0) 0 (((zpt (zpt v j ((v (10 + a)) + (v (10 + j))) (v (34 + j))) a 0 0) 0) &&& ((1 <<< ((nI a) &&& 31)) ^^^ (-1)))) 1) &&& ((1 <<< ((nI a) &&& 31)) ^^^ (-1))))))] H := hP
                have hD : va_D A [(x9, .inr (10, [.int th, .int (nI ch), .int era, .int why, .int det, .int cau, .int (zI sv), .int (zI rj), .ref v9, .ref b9, .ref s9, .ref k9, .ref p9, .ref t9, .ref n9, .int (nI tn), .int (nI he), .int (nI en), .int (nI ln), .int (zI iw), .int (zI dg)])), (v9, .inl (cy 0, 188, .inl (upd (upd (zpt (zpt v j ((v (10 + a)) + (v (10 + j))) (v (34 + j))) a 0 0) 0 (((zpt (zpt v j ((v (10 + a)) + (v (10 + j))) (v (34 + j))) a 0 0) 0) &&& ((1 <<< ((nI a) &&& 31)) ^^^ (-1)))) 1 (((upd (zpt (zpt v j ((v (10 + a)) + (v (10 + j))) (v (34 + j))) a 0 0) 0 (((zpt (zpt v j ((v (10 + a)) + (v (10 + j))) (v (34 + j))) a 0 0) 0) &&& ((1 <<< ((nI a) &&& 31)) ^^^ (-1)))) 1) &&& ((1 <<< ((nI a) &&& 31)) ^^^ (-1))))))] := hD
                refine lv_iload hx hb dX6_moves_215 (lv_at hl 0 rfl) ?_
                exact ziret hend hx hb hr hlk hK hP hD hS dX6_moves_217 (by rfl) (by simp only [zmv, c_1, c_2, c_3, c_4, c_5, c_6, c_7, ↓reduceIte])
              · refine lv_aload_n hx hb dX6_moves_156 rfl (lv_at hl 2 rfl) ?_
                refine va_get (D := D) (ci := 10) (v := .ref v9) (C := RX6) (T := TX6) (N := 21) hx hb hts in_RX6 hown hK hP 0 rfl rfl 8 (by decide) (hts _ (List.mem_of_getElem? (i := 1) rfl)) (fun _ h9 => h9) rfl dX6_moves_157 ?_
                refine lv_bipush (v := 34) hx hb dX6_moves_160 (by decide) ?_
                refine lv_iload_n hx hb dX6_moves_162 rfl (lv_at hl 3 rfl) ?_
                refine lv_iadd hx hb dX6_moves_163 ?_
                refine z_top (y := nI (34 + a)) (nI_add 34 a) ?_
                refine ziald 1 0 (34 + a) hx hb hK hP rfl rfl (by omega) (z_lt rfl) dX6_moves_164 ?_
                refine lv_goto (tgt := 177) hx hb dX6_moves_165 (by decide) ?_
                refine zcV (As := [.int (nI j), .int ((v (10 + a)) + (v (10 + j))), .int (v (34 + a))]) (rest := []) [0, 1] 0 hg.1 ⟨hx, hb, hml, hown, hts⟩ (c_X6_puts hg l D cy x9 th ch era why det cau sv rj v9 b9 s9 k9 p9 t9 n9 tn he en ln iw dg v j ((v (10 + a)) + (v (10 + j))) (v (34 + a)) (by first | assumption | omega)) (cwV 3 hts gX6_moves_X6_puts rfl rfl rfl (by decide +kernel) ⟨Nat.le_of_ble_eq_true rfl, Nat.le_of_ble_eq_true rfl⟩) hG hK hP hD hS hA rfl rfl (Eq.trans (b := [x9, v9]) rfl rfl) rfl rfl rfl hl.1 rfl (Nat.le_of_ble_eq_true rfl) dX6_moves_177 ⟨Nat.zero_le _, Nat.zero_le _⟩ (fun H locs hP hD hS => ?_)
                have hP : va_P D vwCl [(x9, .inr (10, [.int th, .int (nI ch), .int era, .int why, .int det, .int cau, .int (zI sv), .int (zI rj), .ref v9, .ref b9, .ref s9, .ref k9, .ref p9, .ref t9, .ref n9, .int (nI tn), .int (nI he), .int (nI en), .int (nI ln), .int (zI iw), .int (zI dg)])), (v9, .inl (cy 0, 188, .inl (zpt v j ((v (10 + a)) + (v (10 + j))) (v (34 + a)))))] H := hP
                have hD : va_D A [(x9, .inr (10, [.int th, .int (nI ch), .int era, .int why, .int det, .int cau, .int (zI sv), .int (zI rj), .ref v9, .ref b9, .ref s9, .ref k9, .ref p9, .ref t9, .ref n9, .int (nI tn), .int (nI he), .int (nI en), .int (nI ln), .int (zI iw), .int (zI dg)])), (v9, .inl (cy 0, 188, .inl (zpt v j ((v (10 + a)) + (v (10 + j))) (v (34 + a)))))] := hD
                refine lv_aload_n hx hb dX6_moves_180 rfl (lv_at hl 2 rfl) ?_
                refine lv_iload_n hx hb dX6_moves_181 rfl (lv_at hl 3 rfl) ?_
                refine lv_iconst (v := 0) hx hb dX6_moves_182 (by decide) ?_
                refine lv_iconst (v := 0) hx hb dX6_moves_183 (by decide) ?_
                refine zcV (As := [.int (nI a), .int 0, .int 0]) (rest := []) [0, 1] 0 hg.1 ⟨hx, hb, hml, hown, hts⟩ (c_X6_puts hg l D cy x9 th ch era why det cau sv rj v9 b9 s9 k9 p9 t9 n9 tn he en ln iw dg (zpt v j ((v (10 + a)) + (v (10 + j))) (v (34 + a))) a 0 0 (by first | assumption | omega)) (cwV 3 hts gX6_moves_X6_puts rfl rfl rfl (by decide +kernel) ⟨Nat.le_of_ble_eq_true rfl, Nat.le_of_ble_eq_true rfl⟩) hG hK hP hD hS hA rfl rfl (Eq.trans (b := [x9, v9]) rfl rfl) rfl rfl rfl hl.1 rfl (Nat.le_of_ble_eq_true rfl) dX6_moves_184 ⟨Nat.zero_le _, Nat.zero_le _⟩ (fun H locs hP hD hS => ?_)
                have hP : va_P D vwCl [(x9, .inr (10, [.int th, .int (nI ch), .int era, .int why, .int det, .int cau, .int (zI sv), .int (zI rj), .ref v9, .ref b9, .ref s9, .ref k9, .ref p9, .ref t9, .ref n9, .int (nI tn), .int (nI he), .int (nI en), .int (nI ln), .int (zI iw), .int (zI dg)])), (v9, .inl (cy 0, 188, .inl (zpt (zpt v j ((v (10 + a)) + (v (10 + j))) (v (34 + a))) a 0 0)))] H := hP
                have hD : va_D A [(x9, .inr (10, [.int th, .int (nI ch), .int era, .int why, .int det, .int cau, .int (zI sv), .int (zI rj), .ref v9, .ref b9, .ref s9, .ref k9, .ref p9, .ref t9, .ref n9, .int (nI tn), .int (nI he), .int (nI en), .int (nI ln), .int (zI iw), .int (zI dg)])), (v9, .inl (cy 0, 188, .inl (zpt (zpt v j ((v (10 + a)) + (v (10 + j))) (v (34 + a))) a 0 0)))] := hD
                refine lv_aload_n hx hb dX6_moves_187 rfl (lv_at hl 2 rfl) ?_
                refine va_get (D := D) (ci := 10) (v := .ref v9) (C := RX6) (T := TX6) (N := 21) hx hb hts in_RX6 hown hK hP 0 rfl rfl 8 (by decide) (hts _ (List.mem_of_getElem? (i := 1) rfl)) (fun _ h9 => h9) rfl dX6_moves_188 ?_
                refine lv_iconst (v := 0) hx hb dX6_moves_191 (by decide) ?_
                refine lv_dup2_11 hx hb dX6_moves_192 rfl rfl ?_
                refine ziald 1 0 0 hx hb hK hP rfl rfl (by omega) (z_lt rfl) dX6_moves_193 ?_
                refine lv_iconst (v := 1) hx hb dX6_moves_194 (by decide) ?_
                refine lv_iload_n hx hb dX6_moves_195 rfl (lv_at hl 3 rfl) ?_
                refine lv_ishl hx hb dX6_moves_196 ?_
                refine lv_iconst (v := (-1)) hx hb dX6_moves_197 (by decide) ?_
                refine lv_ixor hx hb dX6_moves_198 ?_
                refine lv_iand hx hb dX6_moves_199 ?_
                refine ziast 1 0 0 hx hb hK hP hD hS rfl rfl (by omega) (z_lt rfl) dX6_moves_200 (fun H locs hP hD hS => ?_)
                have hP : va_P D vwCl [(x9, .inr (10, [.int th, .int (nI ch), .int era, .int why, .int det, .int cau, .int (zI sv), .int (zI rj), .ref v9, .ref b9, .ref s9, .ref k9, .ref p9, .ref t9, .ref n9, .int (nI tn), .int (nI he), .int (nI en), .int (nI ln), .int (zI iw), .int (zI dg)])), (v9, .inl (cy 0, 188, .inl (upd (zpt (zpt v j ((v (10 + a)) + (v (10 + j))) (v (34 + a))) a 0 0) 0 (((zpt (zpt v j ((v (10 + a)) + (v (10 + j))) (v (34 + a))) a 0 0) 0) &&& ((1 <<< ((nI a) &&& 31)) ^^^ (-1))))))] H := hP
                have hD : va_D A [(x9, .inr (10, [.int th, .int (nI ch), .int era, .int why, .int det, .int cau, .int (zI sv), .int (zI rj), .ref v9, .ref b9, .ref s9, .ref k9, .ref p9, .ref t9, .ref n9, .int (nI tn), .int (nI he), .int (nI en), .int (nI ln), .int (zI iw), .int (zI dg)])), (v9, .inl (cy 0, 188, .inl (upd (zpt (zpt v j ((v (10 + a)) + (v (10 + j))) (v (34 + a))) a 0 0) 0 (((zpt (zpt v j ((v (10 + a)) + (v (10 + j))) (v (34 + a))) a 0 0) 0) &&& ((1 <<< ((nI a) &&& 31)) ^^^ (-1))))))] := hD
                refine lv_aload_n hx hb dX6_moves_201 rfl (lv_at hl 2 rfl) ?_
                refine va_get (D := D) (ci := 10) (v := .ref v9) (C := RX6) (T := TX6) (N := 21) hx hb hts in_RX6 hown hK hP 0 rfl rfl 8 (by decide) (hts _ (List.mem_of_getElem? (i := 1) rfl)) (fun _ h9 => h9) rfl dX6_moves_202 ?_
                refine lv_iconst (v := 1) hx hb dX6_moves_205 (by decide) ?_
                refine lv_dup2_11 hx hb dX6_moves_206 rfl rfl ?_
                refine ziald 1 0 1 hx hb hK hP rfl rfl (by omega) (z_lt rfl) dX6_moves_207 ?_
                refine lv_iconst (v := 1) hx hb dX6_moves_208 (by decide) ?_
                refine lv_iload_n hx hb dX6_moves_209 rfl (lv_at hl 3 rfl) ?_
                refine lv_ishl hx hb dX6_moves_210 ?_
                refine lv_iconst (v := (-1)) hx hb dX6_moves_211 (by decide) ?_
                refine lv_ixor hx hb dX6_moves_212 ?_
                refine lv_iand hx hb dX6_moves_213 ?_
                refine ziast 1 0 1 hx hb hK hP hD hS rfl rfl (by omega) (z_lt rfl) dX6_moves_214 (fun H locs hP hD hS => ?_)
                have hP : va_P D vwCl [(x9, .inr (10, [.int th, .int (nI ch), .int era, .int why, .int det, .int cau, .int (zI sv), .int (zI rj), .ref v9, .ref b9, .ref s9, .ref k9, .ref p9, .ref t9, .ref n9, .int (nI tn), .int (nI he), .int (nI en), .int (nI ln), .int (zI iw), .int (zI dg)])), (v9, .inl (cy 0, 188, .inl (upd (upd (zpt (zpt v j ((v (10 + a)) + (v (10 + j))) (v (34 + a))) a 0 0) 0 (((zpt (zpt v j ((v (10 + a)) + (v (10 + j))) (v (34 + a))) a 0 0) 0) &&& ((1 <<< ((nI a) &&& 31)) ^^^ (-1)))) 1 (((upd (zpt (zpt v j ((v (10 + a)) + (v (10 + j))) (v (34 + a))) a 0 0) 0 (((zpt (zpt v j ((v (10 + a)) + (v (10 + j))) (v (34 + a))) a 0 0) 0) &&& ((1 <<< ((nI a) &&& 31)) ^^^ (-1)))) 1) &&& ((1 <<< ((nI a) &&& 31)) ^^^ (-1))))))] H := hP
                have hD : va_D A [(x9, .inr (10, [.int th, .int (nI ch), .int era, .int why, .int det, .int cau, .int (zI sv), .int (zI rj), .ref v9, .ref b9, .ref s9, .ref k9, .ref p9, .ref t9, .ref n9, .int (nI tn), .int (nI he), .int (nI en), .int (nI ln), .int (zI iw), .int (zI dg)])), (v9, .inl (cy 0, 188, .inl (upd (upd (zpt (zpt v j ((v (10 + a)) + (v (10 + j))) (v (34 + a))) a 0 0) 0 (((zpt (zpt v j ((v (10 + a)) + (v (10 + j))) (v (34 + a))) a 0 0) 0) &&& ((1 <<< ((nI a) &&& 31)) ^^^ (-1)))) 1 (((upd (zpt (zpt v j ((v (10 + a)) + (v (10 + j))) (v (34 + a))) a 0 0) 0 (((zpt (zpt v j ((v (10 + a)) + (v (10 + j))) (v (34 + a))) a 0 0) 0) &&& ((1 <<< ((nI a) &&& 31)) ^^^ (-1)))) 1) &&& ((1 <<< ((nI a) &&& 31)) ^^^ (-1))))))] := hD
                refine lv_iload hx hb dX6_moves_215 (lv_at hl 0 rfl) ?_
                exact ziret hend hx hb hr hlk hK hP hD hS dX6_moves_217 (by rfl) (by simp only [zmv, c_1, c_2, c_3, c_4, c_5, c_6, c_7, ↓reduceIte])
            · exact absurd hr0 (by simp [zrR6, zrT, zlo, c_1, c_2, c_3, c_4, c_5, c_6])
          · replace c_5 := zI0 c_5
            exact absurd hr0 (by simp [zrR6, zrT, zlo, c_1, c_2, c_3, c_4, c_5])
        · replace c_4 := zI0 c_4
          exact absurd hr0 (by simp [zrR6, zrT, zlo, c_1, c_2, c_3, c_4])
      · exact absurd hr0 (by simp [zrR6, zrT, zlo, c_1, c_2, c_3])
    · replace c_2 := zI0 c_2
      exact absurd hr0 (by simp [zrR6, zrT, c_1, c_2])
  · replace c_1 := zI0 c_1
    exact absurd ((zic23 ha).symm.trans c_1) (by decide)

abbrev rmX6_moves_rej : Room := { frames := 2, cells := 0, slots := 0, locals := 44 }
set_option maxHeartbeats 4000000 in
set_option maxRecDepth 100000 in
theorem c_X6_moves_rej {G : zG} (hg : zGN G) (l : Launch) (D : va_G) (cy : Nat → ClassId) (x9 : Nat) (th : Int32) (ch : Nat) (era : Int32) (why : Int32) (det : Int32) (cau : Int32) (sv : Bool) (rj : Bool) (v9 : Nat) (b9 : Nat) (s9 : Nat) (k9 : Nat) (p9 : Nat) (t9 : Nat) (n9 : Nat) (tn : Nat) (he : Nat) (en : Nat) (ln : Nat) (iw : Bool) (dg : Bool) (v : Nat → Int32) (a : Nat) (by6 : Int32) (bs : Int32) (j : Nat) (ha : a < 24) (hbs : nI a + by6 = bs) (hbj : zic 0 23 bs = true → bs = nI j ∧ j < 24) (hr0 : ¬ zrR6 v a bs j = 0) (hsq : zbok 40 (v 0)) : zM G D vwCl (zT cy) l yX6_moves wsX6_moves rmX6_moves_rej [.ref x9, .int (nI a), .int by6] [(x9, .inr (10, [.int th, .int (nI ch), .int era, .int why, .int det, .int cau, .int (zI sv), .int (zI rj), .ref v9, .ref b9, .ref s9, .ref k9, .ref p9, .ref t9, .ref n9, .int (nI tn), .int (nI he), .int (nI en), .int (nI ln), .int (zI iw), .int (zI dg)])), (v9, .inl (cy 0, 188, .inl v))] (some (.int 0)) [(x9, .inr (10, [.int 2, .int (nI ch), .int era, .int (zrR6 v a bs j), .int (zdR6 v a bs j), .int 0, .int (zI sv), .int (zI true), .ref v9, .ref b9, .ref s9, .ref k9, .ref p9, .ref t9, .ref n9, .int (nI tn), .int (nI he), .int (nI en), .int (nI ln), .int (zI iw), .int (zI dg)])), (v9, .inl (cy 0, 188, .inl v))] := by
  refine zM_of (cc := cX6_moves) (maxL := 5) (ret := (some .int)) (by decide) rfl (Nat.le_of_ble_eq_true rfl) ?_
  intro p e s m below meth c A Q hend hx hb hml hr hts hown hlk hG hK hP hD hA hS ls hl
  have hown : s.vm.findClass RX6 = some m.cls := hown
  have in_RX6 : ∀ w ∈ u_ws RX6 TX6 21, w ∈ wsX6_moves := by decide +kernel
  have hl : lv_has ls 5 [(0, .ref x9), (1, .int (nI a)), (2, .int by6)] := hl
  refine lv_iload_n hx hb dX6_moves_0 rfl (lv_at hl 1 rfl) ?_
  refine zcS (As := [.int (nI a)]) (rest := []) [] hg.1 ⟨hx, hb, hml, hown, hts⟩ (c_X6_isNeedle hg l D cy (nI a)) (va_cwS 1 hts gX6_moves_X6_isNeedle rfl rfl rfl (by decide +kernel) ⟨Nat.le_of_ble_eq_true rfl, Nat.le_of_ble_eq_true rfl⟩) hG hK hP hD hS hA rfl rfl rfl  rfl hl.1 rfl (Nat.le_of_ble_eq_true rfl) dX6_moves_1 ⟨Nat.zero_le _, Nat.zero_le _⟩ (fun H locs hP hD hS => ?_)
  have hP : va_P D vwCl [(x9, .inr (10, [.int th, .int (nI ch), .int era, .int why, .int det, .int cau, .int (zI sv), .int (zI rj), .ref v9, .ref b9, .ref s9, .ref k9, .ref p9, .ref t9, .ref n9, .int (nI tn), .int (nI he), .int (nI en), .int (nI ln), .int (zI iw), .int (zI dg)])), (v9, .inl (cy 0, 188, .inl v))] H := hP
  have hD : va_D A [(x9, .inr (10, [.int th, .int (nI ch), .int era, .int why, .int det, .int cau, .int (zI sv), .int (zI rj), .ref v9, .ref b9, .ref s9, .ref k9, .ref p9, .ref t9, .ref n9, .int (nI tn), .int (nI he), .int (nI en), .int (nI ln), .int (zI iw), .int (zI dg)])), (v9, .inl (cy 0, 188, .inl v))] := hD
  refine lv_if_ne (tgt := 13) hx hb dX6_moves_4 (by decide) (fun c_1 => ?_) (fun c_1 => ?_)
  · replace c_1 := zI1 c_1
    refine lv_aload_n hx hb dX6_moves_13 rfl (lv_at hl 0 rfl) ?_
    refine lv_iload_n hx hb dX6_moves_14 rfl (lv_at hl 1 rfl) ?_
    refine zcV (As := [.int (nI a)]) (rest := []) [0, 1] 0 hg.1 ⟨hx, hb, hml, hown, hts⟩ (c_X6_isOn hg l D cy x9 th ch era why det cau sv rj v9 b9 s9 k9 p9 t9 n9 tn he en ln iw dg v (nI a)) (cwV 1 hts gX6_moves_X6_isOn rfl rfl rfl (by decide +kernel) ⟨Nat.le_of_ble_eq_true rfl, Nat.le_of_ble_eq_true rfl⟩) hG hK hP hD hS hA rfl rfl rfl rfl rfl rfl hl.1 rfl (Nat.le_of_ble_eq_true rfl) dX6_moves_15 ⟨Nat.zero_le _, Nat.zero_le _⟩ (fun H locs hP hD hS => ?_)
    have hP : va_P D vwCl [(x9, .inr (10, [.int th, .int (nI ch), .int era, .int why, .int det, .int cau, .int (zI sv), .int (zI rj), .ref v9, .ref b9, .ref s9, .ref k9, .ref p9, .ref t9, .ref n9, .int (nI tn), .int (nI he), .int (nI en), .int (nI ln), .int (zI iw), .int (zI dg)])), (v9, .inl (cy 0, 188, .inl v))] H := hP
    have hD : va_D A [(x9, .inr (10, [.int th, .int (nI ch), .int era, .int why, .int det, .int cau, .int (zI sv), .int (zI rj), .ref v9, .ref b9, .ref s9, .ref k9, .ref p9, .ref t9, .ref n9, .int (nI tn), .int (nI he), .int (nI en), .int (nI ln), .int (zI iw), .int (zI dg)])), (v9, .inl (cy 0, 188, .inl v))] := hD
    refine lv_if_ne (tgt := 29) hx hb dX6_moves_18 (by decide) (fun c_2 => ?_) (fun c_2 => ?_)
    · replace c_2 := zI1 c_2
      refine lv_aload_n hx hb dX6_moves_29 rfl (lv_at hl 0 rfl) ?_
      refine va_get (D := D) (ci := 10) (v := .ref v9) (C := RX6) (T := TX6) (N := 21) hx hb hts in_RX6 hown hK hP 0 rfl rfl 8 (by decide) (hts _ (List.mem_of_getElem? (i := 1) rfl)) (fun _ h9 => h9) rfl dX6_moves_30 ?_
      refine lv_bipush (v := 10) hx hb dX6_moves_33 (by decide) ?_
      refine lv_iload_n hx hb dX6_moves_35 rfl (lv_at hl 1 rfl) ?_
      refine lv_iadd hx hb dX6_moves_36 ?_
      refine z_top (y := nI (10 + a)) (nI_add 10 a) ?_
      refine ziald 1 0 (10 + a) hx hb hK hP rfl rfl (by omega) (z_lt rfl) dX6_moves_37 ?_
      refine lv_if_ne (tgt := 57) hx hb dX6_moves_38 (by decide) (fun c_3 => ?_) (fun c_3 => ?_)
      · refine lv_iload_n hx hb dX6_moves_57 rfl (lv_at hl 1 rfl) ?_
        refine lv_iload_n hx hb dX6_moves_58 rfl (lv_at hl 2 rfl) ?_
        refine lv_iadd hx hb dX6_moves_59 ?_
        refine z_top (y := bs) (hbs) ?_
        refine lv_istore_n (lv' := [(3, .int bs), (0, .ref x9), (1, .int (nI a)), (2, .int by6)]) hx hb dX6_moves_60 rfl hl (by decide) rfl (fun ls hl => ?_)
        refine lv_iload_n hx hb dX6_moves_61 rfl (lv_at hl 0 rfl) ?_
        refine zcS (As := [.int bs]) (rest := []) [] hg.1 ⟨hx, hb, hml, hown, hts⟩ (c_X6_isNeedle hg l D cy bs) (va_cwS 1 hts gX6_moves_X6_isNeedle rfl rfl rfl (by decide +kernel) ⟨Nat.le_of_ble_eq_true rfl, Nat.le_of_ble_eq_true rfl⟩) hG hK hP hD hS hA rfl rfl rfl  rfl hl.1 rfl (Nat.le_of_ble_eq_true rfl) dX6_moves_62 ⟨Nat.zero_le _, Nat.zero_le _⟩ (fun H locs hP hD hS => ?_)
        have hP : va_P D vwCl [(x9, .inr (10, [.int th, .int (nI ch), .int era, .int why, .int det, .int cau, .int (zI sv), .int (zI rj), .ref v9, .ref b9, .ref s9, .ref k9, .ref p9, .ref t9, .ref n9, .int (nI tn), .int (nI he), .int (nI en), .int (nI ln), .int (zI iw), .int (zI dg)])), (v9, .inl (cy 0, 188, .inl v))] H := hP
        have hD : va_D A [(x9, .inr (10, [.int th, .int (nI ch), .int era, .int why, .int det, .int cau, .int (zI sv), .int (zI rj), .ref v9, .ref b9, .ref s9, .ref k9, .ref p9, .ref t9, .ref n9, .int (nI tn), .int (nI he), .int (nI en), .int (nI ln), .int (zI iw), .int (zI dg)])), (v9, .inl (cy 0, 188, .inl v))] := hD
        refine lv_if_ne (tgt := 77) hx hb dX6_moves_65 (by decide) (fun c_4 => ?_) (fun c_4 => ?_)
        · replace c_4 := zI1 c_4
          obtain ⟨ebs, hj⟩ := hbj c_4
          subst ebs
          refine lv_aload_n hx hb dX6_moves_77 rfl (lv_at hl 1 rfl) ?_
          refine lv_iload_n hx hb dX6_moves_78 rfl (lv_at hl 0 rfl) ?_
          refine zcV (As := [.int (nI j)]) (rest := []) [0, 1] 0 hg.1 ⟨hx, hb, hml, hown, hts⟩ (c_X6_isOn hg l D cy x9 th ch era why det cau sv rj v9 b9 s9 k9 p9 t9 n9 tn he en ln iw dg v (nI j)) (cwV 1 hts gX6_moves_X6_isOn rfl rfl rfl (by decide +kernel) ⟨Nat.le_of_ble_eq_true rfl, Nat.le_of_ble_eq_true rfl⟩) hG hK hP hD hS hA rfl rfl rfl rfl rfl rfl hl.1 rfl (Nat.le_of_ble_eq_true rfl) dX6_moves_79 ⟨Nat.zero_le _, Nat.zero_le _⟩ (fun H locs hP hD hS => ?_)
          have hP : va_P D vwCl [(x9, .inr (10, [.int th, .int (nI ch), .int era, .int why, .int det, .int cau, .int (zI sv), .int (zI rj), .ref v9, .ref b9, .ref s9, .ref k9, .ref p9, .ref t9, .ref n9, .int (nI tn), .int (nI he), .int (nI en), .int (nI ln), .int (zI iw), .int (zI dg)])), (v9, .inl (cy 0, 188, .inl v))] H := hP
          have hD : va_D A [(x9, .inr (10, [.int th, .int (nI ch), .int era, .int why, .int det, .int cau, .int (zI sv), .int (zI rj), .ref v9, .ref b9, .ref s9, .ref k9, .ref p9, .ref t9, .ref n9, .int (nI tn), .int (nI he), .int (nI en), .int (nI ln), .int (zI iw), .int (zI dg)])), (v9, .inl (cy 0, 188, .inl v))] := hD
          refine lv_if_ne (tgt := 94) hx hb dX6_moves_82 (by decide) (fun c_5 => ?_) (fun c_5 => ?_)
          · replace c_5 := zI1 c_5
            refine lv_aload_n hx hb dX6_moves_94 rfl (lv_at hl 1 rfl) ?_
            refine va_get (D := D) (ci := 10) (v := .ref v9) (C := RX6) (T := TX6) (N := 21) hx hb hts in_RX6 hown hK hP 0 rfl rfl 8 (by decide) (hts _ (List.mem_of_getElem? (i := 1) rfl)) (fun _ h9 => h9) rfl dX6_moves_95 ?_
            refine lv_bipush (v := 10) hx hb dX6_moves_98 (by decide) ?_
            refine lv_iload_n hx hb dX6_moves_100 rfl (lv_at hl 2 rfl) ?_
            refine lv_iadd hx hb dX6_moves_101 ?_
            refine z_top (y := nI (10 + a)) (nI_add 10 a) ?_
            refine ziald 1 0 (10 + a) hx hb hK hP rfl rfl (by omega) (z_lt rfl) dX6_moves_102 ?_
            refine lv_aload_n hx hb dX6_moves_103 rfl (lv_at hl 1 rfl) ?_
            refine va_get (D := D) (ci := 10) (v := .ref v9) (C := RX6) (T := TX6) (N := 21) hx hb hts in_RX6 hown hK hP 0 rfl rfl 8 (by decide) (hts _ (List.mem_of_getElem? (i := 1) rfl)) (fun _ h9 => h9) rfl dX6_moves_104 ?_
            refine lv_bipush (v := 10) hx hb dX6_moves_107 (by decide) ?_
            refine lv_iload_n hx hb dX6_moves_109 rfl (lv_at hl 0 rfl) ?_
            refine lv_iadd hx hb dX6_moves_110 ?_
            refine z_top (y := nI (10 + j)) (nI_add 10 j) ?_
            refine ziald 1 0 (10 + j) hx hb hK hP rfl rfl (by omega) (z_lt rfl) dX6_moves_111 ?_
            refine lv_iadd hx hb dX6_moves_112 ?_
            refine lv_istore (lv' := [(4, .int ((v (10 + a)) + (v (10 + j)))), (3, .int (nI j)), (0, .ref x9), (1, .int (nI a)), (2, .int by6)]) hx hb dX6_moves_113 hl (by decide) rfl (fun ls hl => ?_)
            refine lv_iload hx hb dX6_moves_115 (lv_at hl 0 rfl) ?_
            refine lv_iconst (v := 3) hx hb dX6_moves_117 (by decide) ?_
            refine lv_icmp_le (tgt := 131) hx hb dX6_moves_118 (by decide) (fun c_6 => ?_) (fun c_6 => ?_)
            · exact absurd (by simp [zrR6, zrT, zlo, c_1, c_2, c_3, c_4, c_5, c_6]) hr0
            · refine lv_aload_n hx hb dX6_moves_121 rfl (lv_at hl 2 rfl) ?_
              refine lv_iconst (v := 2) hx hb dX6_moves_122 (by decide) ?_
              refine lv_bipush (v := 9) hx hb dX6_moves_123 (by decide) ?_
              refine lv_iload hx hb dX6_moves_125 (lv_at hl 0 rfl) ?_
              refine zcV (As := [.int 2, .int 9, .int ((v (10 + a)) + (v (10 + j)))]) (rest := []) [0] 0 hg.1 ⟨hx, hb, hml, hown, hts⟩ (c_X6_rejects hg l D cy x9 th ch era why det cau sv rj v9 b9 s9 k9 p9 t9 n9 tn he en ln iw dg 2 9 ((v (10 + a)) + (v (10 + j)))) (cwV 3 hts gX6_moves_X6_rejects rfl rfl rfl (by decide +kernel) ⟨Nat.le_of_ble_eq_true rfl, Nat.le_of_ble_eq_true rfl⟩) hG hK hP hD hS hA rfl rfl (Eq.trans (b := [x9]) rfl rfl) rfl rfl rfl hl.1 rfl (Nat.le_of_ble_eq_true rfl) dX6_moves_127 ⟨Nat.zero_le _, Nat.zero_le _⟩ (fun H locs hP hD hS => ?_)
              have hP : va_P D vwCl [(x9, .inr (10, [.int 2, .int (nI ch), .int era, .int 9, .int ((v (10 + a)) + (v (10 + j))), .int 0, .int (zI sv), .int (zI true), .ref v9, .ref b9, .ref s9, .ref k9, .ref p9, .ref t9, .ref n9, .int (nI tn), .int (nI he), .int (nI en), .int (nI ln), .int (zI iw), .int (zI dg)])), (v9, .inl (cy 0, 188, .inl v))] H := hP
              have hD : va_D A [(x9, .inr (10, [.int 2, .int (nI ch), .int era, .int 9, .int ((v (10 + a)) + (v (10 + j))), .int 0, .int (zI sv), .int (zI true), .ref v9, .ref b9, .ref s9, .ref k9, .ref p9, .ref t9, .ref n9, .int (nI tn), .int (nI he), .int (nI en), .int (nI ln), .int (zI iw), .int (zI dg)])), (v9, .inl (cy 0, 188, .inl v))] := hD
              exact ziret hend hx hb hr hlk hK hP hD hS dX6_moves_130 rfl (by first | (simp only [zrR6, zdR6, zdT6, zrT, zlo, c_1, c_2, c_3, c_4, c_5, c_6, decide_true, decide_false, Bool.not_true, Bool.not_false, Bool.and_true, Bool.true_and, Bool.and_false, Bool.false_and, Bool.or_false, Bool.false_or, Bool.or_true, Bool.true_or, ↓reduceIte, Bool.false_eq_true, not_true_eq_false, not_false_eq_true, and_self]; done) | (simp [zrR6, zdR6, zdT6, zrT, zlo, c_1, c_2, c_3, c_4, c_5, c_6]; done) | (simp_all [zrR6, zdR6, zdT6, zrT, zlo]; done))
          · replace c_5 := zI0 c_5
            refine lv_aload_n hx hb dX6_moves_85 rfl (lv_at hl 1 rfl) ?_
            refine lv_iconst (v := 2) hx hb dX6_moves_86 (by decide) ?_
            refine lv_bipush (v := 8) hx hb dX6_moves_87 (by decide) ?_
            refine lv_iload_n hx hb dX6_moves_89 rfl (lv_at hl 0 rfl) ?_
            refine zcV (As := [.int 2, .int 8, .int (nI j)]) (rest := []) [0] 0 hg.1 ⟨hx, hb, hml, hown, hts⟩ (c_X6_rejects hg l D cy x9 th ch era why det cau sv rj v9 b9 s9 k9 p9 t9 n9 tn he en ln iw dg 2 8 (nI j)) (cwV 3 hts gX6_moves_X6_rejects rfl rfl rfl (by decide +kernel) ⟨Nat.le_of_ble_eq_true rfl, Nat.le_of_ble_eq_true rfl⟩) hG hK hP hD hS hA rfl rfl (Eq.trans (b := [x9]) rfl rfl) rfl rfl rfl hl.1 rfl (Nat.le_of_ble_eq_true rfl) dX6_moves_90 ⟨Nat.zero_le _, Nat.zero_le _⟩ (fun H locs hP hD hS => ?_)
            have hP : va_P D vwCl [(x9, .inr (10, [.int 2, .int (nI ch), .int era, .int 8, .int (nI j), .int 0, .int (zI sv), .int (zI true), .ref v9, .ref b9, .ref s9, .ref k9, .ref p9, .ref t9, .ref n9, .int (nI tn), .int (nI he), .int (nI en), .int (nI ln), .int (zI iw), .int (zI dg)])), (v9, .inl (cy 0, 188, .inl v))] H := hP
            have hD : va_D A [(x9, .inr (10, [.int 2, .int (nI ch), .int era, .int 8, .int (nI j), .int 0, .int (zI sv), .int (zI true), .ref v9, .ref b9, .ref s9, .ref k9, .ref p9, .ref t9, .ref n9, .int (nI tn), .int (nI he), .int (nI en), .int (nI ln), .int (zI iw), .int (zI dg)])), (v9, .inl (cy 0, 188, .inl v))] := hD
            exact ziret hend hx hb hr hlk hK hP hD hS dX6_moves_93 rfl (by first | (simp only [zrR6, zdR6, zdT6, zrT, zlo, c_1, c_2, c_3, c_4, c_5, decide_true, decide_false, Bool.not_true, Bool.not_false, Bool.and_true, Bool.true_and, Bool.and_false, Bool.false_and, Bool.or_false, Bool.false_or, Bool.or_true, Bool.true_or, ↓reduceIte, Bool.false_eq_true, not_true_eq_false, not_false_eq_true, and_self]; done) | (simp [zrR6, zdR6, zdT6, zrT, zlo, c_1, c_2, c_3, c_4, c_5]; done) | (simp_all [zrR6, zdR6, zdT6, zrT, zlo]; done))
        · replace c_4 := zI0 c_4
          refine lv_aload_n hx hb dX6_moves_68 rfl (lv_at hl 1 rfl) ?_
          refine lv_iconst (v := 2) hx hb dX6_moves_69 (by decide) ?_
          refine lv_bipush (v := 7) hx hb dX6_moves_70 (by decide) ?_
          refine lv_iload_n hx hb dX6_moves_72 rfl (lv_at hl 2 rfl) ?_
          refine zcV (As := [.int 2, .int 7, .int (nI a)]) (rest := []) [0] 0 hg.1 ⟨hx, hb, hml, hown, hts⟩ (c_X6_rejects hg l D cy x9 th ch era why det cau sv rj v9 b9 s9 k9 p9 t9 n9 tn he en ln iw dg 2 7 (nI a)) (cwV 3 hts gX6_moves_X6_rejects rfl rfl rfl (by decide +kernel) ⟨Nat.le_of_ble_eq_true rfl, Nat.le_of_ble_eq_true rfl⟩) hG hK hP hD hS hA rfl rfl (Eq.trans (b := [x9]) rfl rfl) rfl rfl rfl hl.1 rfl (Nat.le_of_ble_eq_true rfl) dX6_moves_73 ⟨Nat.zero_le _, Nat.zero_le _⟩ (fun H locs hP hD hS => ?_)
          have hP : va_P D vwCl [(x9, .inr (10, [.int 2, .int (nI ch), .int era, .int 7, .int (nI a), .int 0, .int (zI sv), .int (zI true), .ref v9, .ref b9, .ref s9, .ref k9, .ref p9, .ref t9, .ref n9, .int (nI tn), .int (nI he), .int (nI en), .int (nI ln), .int (zI iw), .int (zI dg)])), (v9, .inl (cy 0, 188, .inl v))] H := hP
          have hD : va_D A [(x9, .inr (10, [.int 2, .int (nI ch), .int era, .int 7, .int (nI a), .int 0, .int (zI sv), .int (zI true), .ref v9, .ref b9, .ref s9, .ref k9, .ref p9, .ref t9, .ref n9, .int (nI tn), .int (nI he), .int (nI en), .int (nI ln), .int (zI iw), .int (zI dg)])), (v9, .inl (cy 0, 188, .inl v))] := hD
          exact ziret hend hx hb hr hlk hK hP hD hS dX6_moves_76 rfl (by first | (simp only [zrR6, zdR6, zdT6, zrT, zlo, c_1, c_2, c_3, c_4, decide_true, decide_false, Bool.not_true, Bool.not_false, Bool.and_true, Bool.true_and, Bool.and_false, Bool.false_and, Bool.or_false, Bool.false_or, Bool.or_true, Bool.true_or, ↓reduceIte, Bool.false_eq_true, not_true_eq_false, not_false_eq_true, and_self]; done) | (simp [zrR6, zdR6, zdT6, zrT, zlo, c_1, c_2, c_3, c_4]; done) | (simp_all [zrR6, zdR6, zdT6, zrT, zlo]; done))
      · refine lv_aload_n hx hb dX6_moves_41 rfl (lv_at hl 0 rfl) ?_
        refine lv_iconst (v := 2) hx hb dX6_moves_42 (by decide) ?_
        refine lv_iconst (v := 3) hx hb dX6_moves_43 (by decide) ?_
        refine lv_aload_n hx hb dX6_moves_44 rfl (lv_at hl 0 rfl) ?_
        refine va_get (D := D) (ci := 10) (v := .ref v9) (C := RX6) (T := TX6) (N := 21) hx hb hts in_RX6 hown hK hP 0 rfl rfl 8 (by decide) (hts _ (List.mem_of_getElem? (i := 1) rfl)) (fun _ h9 => h9) rfl dX6_moves_45 ?_
        refine lv_iconst (v := 0) hx hb dX6_moves_48 (by decide) ?_
        refine ziald 1 0 0 hx hb hK hP rfl rfl (by omega) (z_lt rfl) dX6_moves_49 ?_
        refine zcS (As := [.int (v 0)]) (rest := [.int 3, .int 2, .ref x9]) [] hg.1 ⟨hx, hb, hml, hown, hts⟩ (c_X6_bits hg l D cy (v 0) (by first | assumption | omega)) (va_cwS 1 hts gX6_moves_X6_bits rfl rfl rfl (by decide +kernel) ⟨Nat.le_of_ble_eq_true rfl, Nat.le_of_ble_eq_true rfl⟩) hG hK hP hD hS hA rfl rfl rfl  rfl hl.1 rfl (Nat.le_of_ble_eq_true rfl) dX6_moves_50 ⟨Nat.zero_le _, Nat.zero_le _⟩ (fun H locs hP hD hS => ?_)
        have hP : va_P D vwCl [(x9, .inr (10, [.int th, .int (nI ch), .int era, .int why, .int det, .int cau, .int (zI sv), .int (zI rj), .ref v9, .ref b9, .ref s9, .ref k9, .ref p9, .ref t9, .ref n9, .int (nI tn), .int (nI he), .int (nI en), .int (nI ln), .int (zI iw), .int (zI dg)])), (v9, .inl (cy 0, 188, .inl v))] H := hP
        have hD : va_D A [(x9, .inr (10, [.int th, .int (nI ch), .int era, .int why, .int det, .int cau, .int (zI sv), .int (zI rj), .ref v9, .ref b9, .ref s9, .ref k9, .ref p9, .ref t9, .ref n9, .int (nI tn), .int (nI he), .int (nI en), .int (nI ln), .int (zI iw), .int (zI dg)])), (v9, .inl (cy 0, 188, .inl v))] := hD
        refine zcV (As := [.int 2, .int 3, .int (zbc 40 (v 0) 0)]) (rest := []) [0] 0 hg.1 ⟨hx, hb, hml, hown, hts⟩ (c_X6_rejects hg l D cy x9 th ch era why det cau sv rj v9 b9 s9 k9 p9 t9 n9 tn he en ln iw dg 2 3 (zbc 40 (v 0) 0)) (cwV 3 hts gX6_moves_X6_rejects rfl rfl rfl (by decide +kernel) ⟨Nat.le_of_ble_eq_true rfl, Nat.le_of_ble_eq_true rfl⟩) hG hK hP hD hS hA rfl rfl (Eq.trans (b := [x9]) rfl rfl) rfl rfl rfl hl.1 rfl (Nat.le_of_ble_eq_true rfl) dX6_moves_53 ⟨Nat.zero_le _, Nat.zero_le _⟩ (fun H locs hP hD hS => ?_)
        have hP : va_P D vwCl [(x9, .inr (10, [.int 2, .int (nI ch), .int era, .int 3, .int (zbc 40 (v 0) 0), .int 0, .int (zI sv), .int (zI true), .ref v9, .ref b9, .ref s9, .ref k9, .ref p9, .ref t9, .ref n9, .int (nI tn), .int (nI he), .int (nI en), .int (nI ln), .int (zI iw), .int (zI dg)])), (v9, .inl (cy 0, 188, .inl v))] H := hP
        have hD : va_D A [(x9, .inr (10, [.int 2, .int (nI ch), .int era, .int 3, .int (zbc 40 (v 0) 0), .int 0, .int (zI sv), .int (zI true), .ref v9, .ref b9, .ref s9, .ref k9, .ref p9, .ref t9, .ref n9, .int (nI tn), .int (nI he), .int (nI en), .int (nI ln), .int (zI iw), .int (zI dg)])), (v9, .inl (cy 0, 188, .inl v))] := hD
        exact ziret hend hx hb hr hlk hK hP hD hS dX6_moves_56 rfl (by first | (simp only [zrR6, zdR6, zdT6, zrT, zlo, c_1, c_2, c_3, decide_true, decide_false, Bool.not_true, Bool.not_false, Bool.and_true, Bool.true_and, Bool.and_false, Bool.false_and, Bool.or_false, Bool.false_or, Bool.or_true, Bool.true_or, ↓reduceIte, Bool.false_eq_true, not_true_eq_false, not_false_eq_true, and_self]; done) | (simp [zrR6, zdR6, zdT6, zrT, zlo, c_1, c_2, c_3]; done) | (simp_all [zrR6, zdR6, zdT6, zrT, zlo]; done))
    · replace c_2 := zI0 c_2
      refine lv_aload_n hx hb dX6_moves_21 rfl (lv_at hl 0 rfl) ?_
      refine lv_iconst (v := 2) hx hb dX6_moves_22 (by decide) ?_
      refine lv_iconst (v := 2) hx hb dX6_moves_23 (by decide) ?_
      refine lv_iload_n hx hb dX6_moves_24 rfl (lv_at hl 1 rfl) ?_
      refine zcV (As := [.int 2, .int 2, .int (nI a)]) (rest := []) [0] 0 hg.1 ⟨hx, hb, hml, hown, hts⟩ (c_X6_rejects hg l D cy x9 th ch era why det cau sv rj v9 b9 s9 k9 p9 t9 n9 tn he en ln iw dg 2 2 (nI a)) (cwV 3 hts gX6_moves_X6_rejects rfl rfl rfl (by decide +kernel) ⟨Nat.le_of_ble_eq_true rfl, Nat.le_of_ble_eq_true rfl⟩) hG hK hP hD hS hA rfl rfl (Eq.trans (b := [x9]) rfl rfl) rfl rfl rfl hl.1 rfl (Nat.le_of_ble_eq_true rfl) dX6_moves_25 ⟨Nat.zero_le _, Nat.zero_le _⟩ (fun H locs hP hD hS => ?_)
      have hP : va_P D vwCl [(x9, .inr (10, [.int 2, .int (nI ch), .int era, .int 2, .int (nI a), .int 0, .int (zI sv), .int (zI true), .ref v9, .ref b9, .ref s9, .ref k9, .ref p9, .ref t9, .ref n9, .int (nI tn), .int (nI he), .int (nI en), .int (nI ln), .int (zI iw), .int (zI dg)])), (v9, .inl (cy 0, 188, .inl v))] H := hP
      have hD : va_D A [(x9, .inr (10, [.int 2, .int (nI ch), .int era, .int 2, .int (nI a), .int 0, .int (zI sv), .int (zI true), .ref v9, .ref b9, .ref s9, .ref k9, .ref p9, .ref t9, .ref n9, .int (nI tn), .int (nI he), .int (nI en), .int (nI ln), .int (zI iw), .int (zI dg)])), (v9, .inl (cy 0, 188, .inl v))] := hD
      exact ziret hend hx hb hr hlk hK hP hD hS dX6_moves_28 rfl (by first | (simp only [zrR6, zdR6, zdT6, zrT, zlo, c_1, c_2, decide_true, decide_false, Bool.not_true, Bool.not_false, Bool.and_true, Bool.true_and, Bool.and_false, Bool.false_and, Bool.or_false, Bool.false_or, Bool.or_true, Bool.true_or, ↓reduceIte, Bool.false_eq_true, not_true_eq_false, not_false_eq_true, and_self]; done) | (simp [zrR6, zdR6, zdT6, zrT, zlo, c_1, c_2]; done) | (simp_all [zrR6, zdR6, zdT6, zrT, zlo]; done))
  · replace c_1 := zI0 c_1
    exact absurd ((zic23 ha).symm.trans c_1) (by decide)

abbrev rmX6_moves_f1 : Room := { frames := 2, cells := 0, slots := 0, locals := 42 }
set_option maxHeartbeats 4000000 in
set_option maxRecDepth 100000 in
theorem c_X6_moves_f1 {G : zG} (hg : zGN G) (l : Launch) (D : va_G) (cy : Nat → ClassId) (x9 : Nat) (th : Int32) (ch : Nat) (era : Int32) (why : Int32) (det : Int32) (cau : Int32) (sv : Bool) (rj : Bool) (v9 : Nat) (b9 : Nat) (s9 : Nat) (k9 : Nat) (p9 : Nat) (t9 : Nat) (n9 : Nat) (tn : Nat) (he : Nat) (en : Nat) (ln : Nat) (iw : Bool) (dg : Bool) (nq : Int32) (by6 : Int32) (hq : zic 0 23 nq = false) : zM G D vwCl (zT cy) l yX6_moves wsX6_moves rmX6_moves_f1 [.ref x9, .int nq, .int by6] [(x9, .inr (10, [.int th, .int (nI ch), .int era, .int why, .int det, .int cau, .int (zI sv), .int (zI rj), .ref v9, .ref b9, .ref s9, .ref k9, .ref p9, .ref t9, .ref n9, .int (nI tn), .int (nI he), .int (nI en), .int (nI ln), .int (zI iw), .int (zI dg)]))] (some (.int 0)) [(x9, .inr (10, [.int 1, .int (nI ch), .int era, .int why, .int det, .int cau, .int (zI sv), .int (zI rj), .ref v9, .ref b9, .ref s9, .ref k9, .ref p9, .ref t9, .ref n9, .int (nI tn), .int (nI he), .int (nI en), .int (nI ln), .int (zI iw), .int (zI dg)]))] := by
  refine zM_of (cc := cX6_moves) (maxL := 5) (ret := (some .int)) (by decide) rfl (Nat.le_of_ble_eq_true rfl) ?_
  intro p e s m below meth c A Q hend hx hb hml hr hts hown hlk hG hK hP hD hA hS ls hl
  have hown : s.vm.findClass RX6 = some m.cls := hown
  have hl : lv_has ls 5 [(0, .ref x9), (1, .int nq), (2, .int by6)] := hl
  refine lv_iload_n hx hb dX6_moves_0 rfl (lv_at hl 1 rfl) ?_
  refine zcS (As := [.int nq]) (rest := []) [] hg.1 ⟨hx, hb, hml, hown, hts⟩ (c_X6_isNeedle hg l D cy nq) (va_cwS 1 hts gX6_moves_X6_isNeedle rfl rfl rfl (by decide +kernel) ⟨Nat.le_of_ble_eq_true rfl, Nat.le_of_ble_eq_true rfl⟩) hG hK hP hD hS hA rfl rfl rfl  rfl hl.1 rfl (Nat.le_of_ble_eq_true rfl) dX6_moves_1 ⟨Nat.zero_le _, Nat.zero_le _⟩ (fun H locs hP hD hS => ?_)
  have hP : va_P D vwCl [(x9, .inr (10, [.int th, .int (nI ch), .int era, .int why, .int det, .int cau, .int (zI sv), .int (zI rj), .ref v9, .ref b9, .ref s9, .ref k9, .ref p9, .ref t9, .ref n9, .int (nI tn), .int (nI he), .int (nI en), .int (nI ln), .int (zI iw), .int (zI dg)]))] H := hP
  have hD : va_D A [(x9, .inr (10, [.int th, .int (nI ch), .int era, .int why, .int det, .int cau, .int (zI sv), .int (zI rj), .ref v9, .ref b9, .ref s9, .ref k9, .ref p9, .ref t9, .ref n9, .int (nI tn), .int (nI he), .int (nI en), .int (nI ln), .int (zI iw), .int (zI dg)]))] := hD
  refine lv_if_ne (tgt := 13) hx hb dX6_moves_4 (by decide) (fun c_1 => ?_) (fun c_1 => ?_)
  · replace c_1 := zI1 c_1
    exact absurd (hq.symm.trans c_1) (by decide)
  · replace c_1 := zI0 c_1
    refine lv_aload_n hx hb dX6_moves_7 rfl (lv_at hl 0 rfl) ?_
    refine lv_iconst (v := 1) hx hb dX6_moves_8 (by decide) ?_
    refine zcV (As := [.int 1]) (rest := []) [0] 0 hg.1 ⟨hx, hb, hml, hown, hts⟩ (c_X6_fail hg l D cy x9 th ch era why det cau sv rj v9 b9 s9 k9 p9 t9 n9 tn he en ln iw dg 1) (cwV 1 hts gX6_moves_X6_fail rfl rfl rfl (by decide +kernel) ⟨Nat.le_of_ble_eq_true rfl, Nat.le_of_ble_eq_true rfl⟩) hG hK hP hD hS hA rfl rfl (Eq.trans (b := [x9]) rfl rfl) rfl rfl rfl hl.1 rfl (Nat.le_of_ble_eq_true rfl) dX6_moves_9 ⟨Nat.zero_le _, Nat.zero_le _⟩ (fun H locs hP hD hS => ?_)
    have hP : va_P D vwCl [(x9, .inr (10, [.int 1, .int (nI ch), .int era, .int why, .int det, .int cau, .int (zI sv), .int (zI rj), .ref v9, .ref b9, .ref s9, .ref k9, .ref p9, .ref t9, .ref n9, .int (nI tn), .int (nI he), .int (nI en), .int (nI ln), .int (zI iw), .int (zI dg)]))] H := hP
    have hD : va_D A [(x9, .inr (10, [.int 1, .int (nI ch), .int era, .int why, .int det, .int cau, .int (zI sv), .int (zI rj), .ref v9, .ref b9, .ref s9, .ref k9, .ref p9, .ref t9, .ref n9, .int (nI tn), .int (nI he), .int (nI en), .int (nI ln), .int (zI iw), .int (zI dg)]))] := hD
    exact ziret hend hx hb hr hlk hK hP hD hS dX6_moves_12 rfl rfl

abbrev rmX6_knits : Room := { frames := 1, cells := 0, slots := 0, locals := 21 }
set_option maxHeartbeats 4000000 in
set_option maxRecDepth 100000 in
theorem c_X6_knits {G : zG} (hg : zGN G) (l : Launch) (D : va_G) (cy : Nat → ClassId) (x9 : Nat) (th : Int32) (ch : Nat) (era : Int32) (why : Int32) (det : Int32) (cau : Int32) (sv : Bool) (rj : Bool) (v9 : Nat) (b9 : Nat) (s9 : Nat) (k9 : Nat) (p9 : Nat) (t9 : Nat) (n9 : Nat) (tn : Nat) (he : Nat) (en : Nat) (ln : Nat) (iw : Bool) (dg : Bool) (v : Nat → Int32) (k : Nat) (cq : Nat) (rw : Nat) (hv4 : v 4 = nI rw) (hrw : rw ≤ 6) (hk : k < 24) (hcq : cq < 1000) : zM G D vwCl (zT cy) l yX6_knits wsX6_knits rmX6_knits [.ref x9, .int (nI k), .int (nI cq)] [(x9, .inr (10, [.int th, .int (nI ch), .int era, .int why, .int det, .int cau, .int (zI sv), .int (zI rj), .ref v9, .ref b9, .ref s9, .ref k9, .ref p9, .ref t9, .ref n9, .int (nI tn), .int (nI he), .int (nI en), .int (nI ln), .int (zI iw), .int (zI dg)])), (v9, .inl (cy 0, 188, .inl v))] (some (.int (zI (zkn6 v rw cq k)))) [(x9, .inr (10, [.int th, .int (nI ch), .int era, .int why, .int det, .int cau, .int (zI sv), .int (zI rj), .ref v9, .ref b9, .ref s9, .ref k9, .ref p9, .ref t9, .ref n9, .int (nI tn), .int (nI he), .int (nI en), .int (nI ln), .int (zI iw), .int (zI dg)])), (v9, .inl (cy 0, 188, .inl v))] := by
  refine zM_of (cc := cX6_knits) (maxL := 4) (ret := (some .boolean)) (by decide) rfl (Nat.le_of_ble_eq_true rfl) ?_
  intro p e s m below meth c A Q hend hx hb hml hr hts hown hlk hG hK hP hD hA hS ls hl
  have hown : s.vm.findClass RX6 = some m.cls := hown
  have in_RX6 : ∀ w ∈ u_ws RX6 TX6 21, w ∈ wsX6_knits := by decide +kernel
  have hl : lv_has ls 4 [(0, .ref x9), (1, .int (nI k)), (2, .int (nI cq))] := hl
  refine lv_aload_n hx hb dX6_knits_0 rfl (lv_at hl 0 rfl) ?_
  refine va_get (D := D) (ci := 10) (v := .ref v9) (C := RX6) (T := TX6) (N := 21) hx hb hts in_RX6 hown hK hP 0 rfl rfl 8 (by decide) (hts _ (List.mem_of_getElem? (i := 1) rfl)) (fun _ h9 => h9) rfl dX6_knits_1 ?_
  refine lv_iconst (v := 4) hx hb dX6_knits_4 (by decide) ?_
  refine ziald 1 0 4 hx hb hK hP rfl rfl (by omega) (z_lt rfl) dX6_knits_5 ?_
  refine z_top (y := nI rw) (hv4) ?_
  refine lv_if_eq (tgt := 36) hx hb dX6_knits_6 (by decide) (fun c_1 => ?_) (fun c_1 => ?_)
  · have hr0 : rw = 0 := (nI_eq (a := rw) (b := 0) (by omega) (by omega)).mp c_1
    refine lv_iconst (v := 1) hx hb dX6_knits_36 (by decide) ?_
    refine lv_goto (tgt := 41) hx hb dX6_knits_37 (by decide) ?_
    refine lv_istore_n (lv' := [(3, .int 1), (0, .ref x9), (1, .int (nI k)), (2, .int (nI cq))]) hx hb dX6_knits_41 rfl hl (by decide) rfl (fun ls hl => ?_)
    refine lv_iload_n hx hb dX6_knits_42 rfl (lv_at hl 0 rfl) ?_
    refine lv_if_eq (tgt := 78) hx hb dX6_knits_43 (by decide) (fun c_2 => ?_) (fun c_2 => ?_)
    · exact absurd c_2 (by decide)
    · refine lv_aload_n hx hb dX6_knits_46 rfl (lv_at hl 1 rfl) ?_
      refine lv_iload_n hx hb dX6_knits_47 rfl (lv_at hl 2 rfl) ?_
      refine zcV (As := [.int (nI k)]) (rest := []) [0, 1] 0 hg.1 ⟨hx, hb, hml, hown, hts⟩ (c_X6_isOn hg l D cy x9 th ch era why det cau sv rj v9 b9 s9 k9 p9 t9 n9 tn he en ln iw dg v (nI k)) (cwV 1 hts gX6_knits_X6_isOn rfl rfl rfl (by decide +kernel) ⟨Nat.le_of_ble_eq_true rfl, Nat.le_of_ble_eq_true rfl⟩) hG hK hP hD hS hA rfl rfl rfl rfl rfl rfl hl.1 rfl (Nat.le_of_ble_eq_true rfl) dX6_knits_48 ⟨Nat.zero_le _, Nat.zero_le _⟩ (fun H locs hP hD hS => ?_)
      have hP : va_P D vwCl [(x9, .inr (10, [.int th, .int (nI ch), .int era, .int why, .int det, .int cau, .int (zI sv), .int (zI rj), .ref v9, .ref b9, .ref s9, .ref k9, .ref p9, .ref t9, .ref n9, .int (nI tn), .int (nI he), .int (nI en), .int (nI ln), .int (zI iw), .int (zI dg)])), (v9, .inl (cy 0, 188, .inl v))] H := hP
      have hD : va_D A [(x9, .inr (10, [.int th, .int (nI ch), .int era, .int why, .int det, .int cau, .int (zI sv), .int (zI rj), .ref v9, .ref b9, .ref s9, .ref k9, .ref p9, .ref t9, .ref n9, .int (nI tn), .int (nI he), .int (nI en), .int (nI ln), .int (zI iw), .int (zI dg)])), (v9, .inl (cy 0, 188, .inl v))] := hD
      refine lv_if_eq (tgt := 78) hx hb dX6_knits_51 (by decide) (fun c_3 => ?_) (fun c_3 => ?_)
      · replace c_3 := zI0 c_3
        refine lv_iconst (v := 0) hx hb dX6_knits_78 (by decide) ?_
        exact zzret hend hx hb hr hlk hK hP hD hS dX6_knits_79 rfl (by first | (simp [zkn6, zI, zb, hr0, c_1, c_2, c_3]; done) | (simp [zkn6, zI, zb, hrn, c_1, c_2, c_3]; done) | (simp_all [zkn6, zI, zb]; done)) rfl
      · replace c_3 := zI1 c_3
        refine lv_aload_n hx hb dX6_knits_54 rfl (lv_at hl 1 rfl) ?_
        refine lv_iload_n hx hb dX6_knits_55 rfl (lv_at hl 2 rfl) ?_
        refine zcV (As := [.int (nI k)]) (rest := []) [0, 1] 0 hg.1 ⟨hx, hb, hml, hown, hts⟩ (c_X6_isHeld hg l D cy x9 th ch era why det cau sv rj v9 b9 s9 k9 p9 t9 n9 tn he en ln iw dg v (nI k)) (cwV 1 hts gX6_knits_X6_isHeld rfl rfl rfl (by decide +kernel) ⟨Nat.le_of_ble_eq_true rfl, Nat.le_of_ble_eq_true rfl⟩) hG hK hP hD hS hA rfl rfl rfl rfl rfl rfl hl.1 rfl (Nat.le_of_ble_eq_true rfl) dX6_knits_56 ⟨Nat.zero_le _, Nat.zero_le _⟩ (fun H locs hP hD hS => ?_)
        have hP : va_P D vwCl [(x9, .inr (10, [.int th, .int (nI ch), .int era, .int why, .int det, .int cau, .int (zI sv), .int (zI rj), .ref v9, .ref b9, .ref s9, .ref k9, .ref p9, .ref t9, .ref n9, .int (nI tn), .int (nI he), .int (nI en), .int (nI ln), .int (zI iw), .int (zI dg)])), (v9, .inl (cy 0, 188, .inl v))] H := hP
        have hD : va_D A [(x9, .inr (10, [.int th, .int (nI ch), .int era, .int why, .int det, .int cau, .int (zI sv), .int (zI rj), .ref v9, .ref b9, .ref s9, .ref k9, .ref p9, .ref t9, .ref n9, .int (nI tn), .int (nI he), .int (nI en), .int (nI ln), .int (zI iw), .int (zI dg)])), (v9, .inl (cy 0, 188, .inl v))] := hD
        refine lv_if_ne (tgt := 78) hx hb dX6_knits_59 (by decide) (fun c_4 => ?_) (fun c_4 => ?_)
        · replace c_4 := zI1 c_4
          refine lv_iconst (v := 0) hx hb dX6_knits_78 (by decide) ?_
          exact zzret hend hx hb hr hlk hK hP hD hS dX6_knits_79 rfl (by first | (simp [zkn6, zI, zb, hr0, c_1, c_2, c_3, c_4]; done) | (simp [zkn6, zI, zb, hrn, c_1, c_2, c_3, c_4]; done) | (simp_all [zkn6, zI, zb]; done)) rfl
        · replace c_4 := zI0 c_4
          refine lv_aload_n hx hb dX6_knits_62 rfl (lv_at hl 1 rfl) ?_
          refine va_get (D := D) (ci := 10) (v := .ref v9) (C := RX6) (T := TX6) (N := 21) hx hb hts in_RX6 hown hK hP 0 rfl rfl 8 (by decide) (hts _ (List.mem_of_getElem? (i := 1) rfl)) (fun _ h9 => h9) rfl dX6_knits_63 ?_
          refine lv_bipush (v := 10) hx hb dX6_knits_66 (by decide) ?_
          refine lv_iload_n hx hb dX6_knits_68 rfl (lv_at hl 2 rfl) ?_
          refine lv_iadd hx hb dX6_knits_69 ?_
          refine z_top (y := nI (10 + k)) (nI_add 10 k) ?_
          refine ziald 1 0 (10 + k) hx hb hK hP rfl rfl (by omega) (z_lt rfl) dX6_knits_70 ?_
          refine lv_if_le (tgt := 78) hx hb dX6_knits_71 (by decide) (fun c_5 => ?_) (fun c_5 => ?_)
          · refine lv_iconst (v := 0) hx hb dX6_knits_78 (by decide) ?_
            exact zzret hend hx hb hr hlk hK hP hD hS dX6_knits_79 rfl (by first | (simp [zkn6, zI, zb, hr0, c_1, c_2, c_3, c_4, c_5]; done) | (simp [zkn6, zI, zb, hrn, c_1, c_2, c_3, c_4, c_5]; done) | (simp_all [zkn6, zI, zb]; done)) rfl
          · refine lv_iconst (v := 1) hx hb dX6_knits_74 (by decide) ?_
            refine lv_goto (tgt := 79) hx hb dX6_knits_75 (by decide) ?_
            exact zzret hend hx hb hr hlk hK hP hD hS dX6_knits_79 rfl (by first | (simp [zkn6, zI, zb, hr0, c_1, c_2, c_3, c_4, c_5]; done) | (simp [zkn6, zI, zb, hrn, c_1, c_2, c_3, c_4, c_5]; done) | (simp_all [zkn6, zI, zb]; done)) rfl
  · have hr0 : 0 < rw := Nat.pos_of_ne_zero (fun z => c_1 (by rw [z]; rfl))
    have hrn : ¬ rw = 0 := Nat.ne_of_gt hr0
    have hcm : cq % rw < rw := Nat.mod_lt _ hr0
    refine lv_aload_n hx hb dX6_knits_9 rfl (lv_at hl 0 rfl) ?_
    refine va_get (D := D) (ci := 10) (v := .ref v9) (C := RX6) (T := TX6) (N := 21) hx hb hts in_RX6 hown hK hP 0 rfl rfl 8 (by decide) (hts _ (List.mem_of_getElem? (i := 1) rfl)) (fun _ h9 => h9) rfl dX6_knits_10 ?_
    refine lv_bipush (v := 62) hx hb dX6_knits_13 (by decide) ?_
    refine lv_iload_n hx hb dX6_knits_15 rfl (lv_at hl 2 rfl) ?_
    refine lv_aload_n hx hb dX6_knits_16 rfl (lv_at hl 0 rfl) ?_
    refine va_get (D := D) (ci := 10) (v := .ref v9) (C := RX6) (T := TX6) (N := 21) hx hb hts in_RX6 hown hK hP 0 rfl rfl 8 (by decide) (hts _ (List.mem_of_getElem? (i := 1) rfl)) (fun _ h9 => h9) rfl dX6_knits_17 ?_
    refine lv_iconst (v := 4) hx hb dX6_knits_20 (by decide) ?_
    refine ziald 1 0 4 hx hb hK hP rfl rfl (by omega) (z_lt rfl) dX6_knits_21 ?_
    refine z_top (y := nI rw) (hv4) ?_
    refine lv_irem hx hb dX6_knits_22 (nI_ne0 hr0 (by omega)) ?_
    refine z_top (y := nI (cq % rw)) (pk_rem (by omega) hr0 (by omega)) ?_
    refine lv_iadd hx hb dX6_knits_23 ?_
    refine z_top (y := nI (62 + (cq % rw))) (nI_add 62 (cq % rw)) ?_
    refine ziald 1 0 (62 + (cq % rw)) hx hb hK hP rfl rfl (by omega) (z_lt rfl) dX6_knits_24 ?_
    refine lv_iload_n hx hb dX6_knits_25 rfl (lv_at hl 1 rfl) ?_
    refine lv_bipush (v := 8) hx hb dX6_knits_26 (by decide) ?_
    refine lv_irem hx hb dX6_knits_28 (by decide) ?_
    refine lv_ishr hx hb dX6_knits_29 ?_
    refine lv_iconst (v := 1) hx hb dX6_knits_30 (by decide) ?_
    refine lv_iand hx hb dX6_knits_31 ?_
    refine lv_iconst (v := 1) hx hb dX6_knits_32 (by decide) ?_
    refine lv_icmp_ne (tgt := 40) hx hb dX6_knits_33 (by decide) (fun c_6 => ?_) (fun c_6 => ?_)
    · refine lv_iconst (v := 0) hx hb dX6_knits_40 (by decide) ?_
      refine lv_istore_n (lv' := [(3, .int 0), (0, .ref x9), (1, .int (nI k)), (2, .int (nI cq))]) hx hb dX6_knits_41 rfl hl (by decide) rfl (fun ls hl => ?_)
      refine lv_iload_n hx hb dX6_knits_42 rfl (lv_at hl 0 rfl) ?_
      refine lv_if_eq (tgt := 78) hx hb dX6_knits_43 (by decide) (fun c_7 => ?_) (fun c_7 => ?_)
      · refine lv_iconst (v := 0) hx hb dX6_knits_78 (by decide) ?_
        exact zzret hend hx hb hr hlk hK hP hD hS dX6_knits_79 rfl (by first | (simp [zkn6, zI, zb, hr0, c_1, c_6, c_7]; done) | (simp [zkn6, zI, zb, hrn, c_1, c_6, c_7]; done) | (simp_all [zkn6, zI, zb]; done)) rfl
      · exact absurd c_7 (by decide)
    · refine lv_iconst (v := 1) hx hb dX6_knits_36 (by decide) ?_
      refine lv_goto (tgt := 41) hx hb dX6_knits_37 (by decide) ?_
      refine lv_istore_n (lv' := [(3, .int 1), (0, .ref x9), (1, .int (nI k)), (2, .int (nI cq))]) hx hb dX6_knits_41 rfl hl (by decide) rfl (fun ls hl => ?_)
      refine lv_iload_n hx hb dX6_knits_42 rfl (lv_at hl 0 rfl) ?_
      refine lv_if_eq (tgt := 78) hx hb dX6_knits_43 (by decide) (fun c_8 => ?_) (fun c_8 => ?_)
      · exact absurd c_8 (by decide)
      · refine lv_aload_n hx hb dX6_knits_46 rfl (lv_at hl 1 rfl) ?_
        refine lv_iload_n hx hb dX6_knits_47 rfl (lv_at hl 2 rfl) ?_
        refine zcV (As := [.int (nI k)]) (rest := []) [0, 1] 0 hg.1 ⟨hx, hb, hml, hown, hts⟩ (c_X6_isOn hg l D cy x9 th ch era why det cau sv rj v9 b9 s9 k9 p9 t9 n9 tn he en ln iw dg v (nI k)) (cwV 1 hts gX6_knits_X6_isOn rfl rfl rfl (by decide +kernel) ⟨Nat.le_of_ble_eq_true rfl, Nat.le_of_ble_eq_true rfl⟩) hG hK hP hD hS hA rfl rfl rfl rfl rfl rfl hl.1 rfl (Nat.le_of_ble_eq_true rfl) dX6_knits_48 ⟨Nat.zero_le _, Nat.zero_le _⟩ (fun H locs hP hD hS => ?_)
        have hP : va_P D vwCl [(x9, .inr (10, [.int th, .int (nI ch), .int era, .int why, .int det, .int cau, .int (zI sv), .int (zI rj), .ref v9, .ref b9, .ref s9, .ref k9, .ref p9, .ref t9, .ref n9, .int (nI tn), .int (nI he), .int (nI en), .int (nI ln), .int (zI iw), .int (zI dg)])), (v9, .inl (cy 0, 188, .inl v))] H := hP
        have hD : va_D A [(x9, .inr (10, [.int th, .int (nI ch), .int era, .int why, .int det, .int cau, .int (zI sv), .int (zI rj), .ref v9, .ref b9, .ref s9, .ref k9, .ref p9, .ref t9, .ref n9, .int (nI tn), .int (nI he), .int (nI en), .int (nI ln), .int (zI iw), .int (zI dg)])), (v9, .inl (cy 0, 188, .inl v))] := hD
        refine lv_if_eq (tgt := 78) hx hb dX6_knits_51 (by decide) (fun c_9 => ?_) (fun c_9 => ?_)
        · replace c_9 := zI0 c_9
          refine lv_iconst (v := 0) hx hb dX6_knits_78 (by decide) ?_
          exact zzret hend hx hb hr hlk hK hP hD hS dX6_knits_79 rfl (by first | (simp [zkn6, zI, zb, hr0, c_1, c_6, c_8, c_9]; done) | (simp [zkn6, zI, zb, hrn, c_1, c_6, c_8, c_9]; done) | (simp_all [zkn6, zI, zb]; done)) rfl
        · replace c_9 := zI1 c_9
          refine lv_aload_n hx hb dX6_knits_54 rfl (lv_at hl 1 rfl) ?_
          refine lv_iload_n hx hb dX6_knits_55 rfl (lv_at hl 2 rfl) ?_
          refine zcV (As := [.int (nI k)]) (rest := []) [0, 1] 0 hg.1 ⟨hx, hb, hml, hown, hts⟩ (c_X6_isHeld hg l D cy x9 th ch era why det cau sv rj v9 b9 s9 k9 p9 t9 n9 tn he en ln iw dg v (nI k)) (cwV 1 hts gX6_knits_X6_isHeld rfl rfl rfl (by decide +kernel) ⟨Nat.le_of_ble_eq_true rfl, Nat.le_of_ble_eq_true rfl⟩) hG hK hP hD hS hA rfl rfl rfl rfl rfl rfl hl.1 rfl (Nat.le_of_ble_eq_true rfl) dX6_knits_56 ⟨Nat.zero_le _, Nat.zero_le _⟩ (fun H locs hP hD hS => ?_)
          have hP : va_P D vwCl [(x9, .inr (10, [.int th, .int (nI ch), .int era, .int why, .int det, .int cau, .int (zI sv), .int (zI rj), .ref v9, .ref b9, .ref s9, .ref k9, .ref p9, .ref t9, .ref n9, .int (nI tn), .int (nI he), .int (nI en), .int (nI ln), .int (zI iw), .int (zI dg)])), (v9, .inl (cy 0, 188, .inl v))] H := hP
          have hD : va_D A [(x9, .inr (10, [.int th, .int (nI ch), .int era, .int why, .int det, .int cau, .int (zI sv), .int (zI rj), .ref v9, .ref b9, .ref s9, .ref k9, .ref p9, .ref t9, .ref n9, .int (nI tn), .int (nI he), .int (nI en), .int (nI ln), .int (zI iw), .int (zI dg)])), (v9, .inl (cy 0, 188, .inl v))] := hD
          refine lv_if_ne (tgt := 78) hx hb dX6_knits_59 (by decide) (fun c_10 => ?_) (fun c_10 => ?_)
          · replace c_10 := zI1 c_10
            refine lv_iconst (v := 0) hx hb dX6_knits_78 (by decide) ?_
            exact zzret hend hx hb hr hlk hK hP hD hS dX6_knits_79 rfl (by first | (simp [zkn6, zI, zb, hr0, c_1, c_6, c_8, c_9, c_10]; done) | (simp [zkn6, zI, zb, hrn, c_1, c_6, c_8, c_9, c_10]; done) | (simp_all [zkn6, zI, zb]; done)) rfl
          · replace c_10 := zI0 c_10
            refine lv_aload_n hx hb dX6_knits_62 rfl (lv_at hl 1 rfl) ?_
            refine va_get (D := D) (ci := 10) (v := .ref v9) (C := RX6) (T := TX6) (N := 21) hx hb hts in_RX6 hown hK hP 0 rfl rfl 8 (by decide) (hts _ (List.mem_of_getElem? (i := 1) rfl)) (fun _ h9 => h9) rfl dX6_knits_63 ?_
            refine lv_bipush (v := 10) hx hb dX6_knits_66 (by decide) ?_
            refine lv_iload_n hx hb dX6_knits_68 rfl (lv_at hl 2 rfl) ?_
            refine lv_iadd hx hb dX6_knits_69 ?_
            refine z_top (y := nI (10 + k)) (nI_add 10 k) ?_
            refine ziald 1 0 (10 + k) hx hb hK hP rfl rfl (by omega) (z_lt rfl) dX6_knits_70 ?_
            refine lv_if_le (tgt := 78) hx hb dX6_knits_71 (by decide) (fun c_11 => ?_) (fun c_11 => ?_)
            · refine lv_iconst (v := 0) hx hb dX6_knits_78 (by decide) ?_
              exact zzret hend hx hb hr hlk hK hP hD hS dX6_knits_79 rfl (by first | (simp [zkn6, zI, zb, hr0, c_1, c_6, c_8, c_9, c_10, c_11]; done) | (simp [zkn6, zI, zb, hrn, c_1, c_6, c_8, c_9, c_10, c_11]; done) | (simp_all [zkn6, zI, zb]; done)) rfl
            · refine lv_iconst (v := 1) hx hb dX6_knits_74 (by decide) ?_
              refine lv_goto (tgt := 79) hx hb dX6_knits_75 (by decide) ?_
              exact zzret hend hx hb hr hlk hK hP hD hS dX6_knits_79 rfl (by first | (simp [zkn6, zI, zb, hr0, c_1, c_6, c_8, c_9, c_10, c_11]; done) | (simp [zkn6, zI, zb, hrn, c_1, c_6, c_8, c_9, c_10, c_11]; done) | (simp_all [zkn6, zI, zb]; done)) rfl

abbrev rmX6_wide : Room := { frames := 2, cells := 0, slots := 0, locals := 44 }
set_option maxHeartbeats 4000000 in
set_option maxRecDepth 100000 in
theorem c_X6_wide {G : zG} (hg : zGN G) (l : Launch) (D : va_G) (cy : Nat → ClassId) (x9 : Nat) (th : Int32) (ch : Nat) (era : Int32) (why : Int32) (det : Int32) (cau : Int32) (sv : Bool) (rj : Bool) (v9 : Nat) (b9 : Nat) (s9 : Nat) (k9 : Nat) (p9 : Nat) (t9 : Nat) (n9 : Nat) (tn : Nat) (he : Nat) (en : Nat) (ln : Nat) (iw : Bool) (dg : Bool) (v : Nat → Int32) (cq : Nat) (rw : Nat) (hv4 : v 4 = nI rw) (hrw : rw ≤ 6) (hcq : cq < 1000) : zM G D vwCl (zT cy) l yX6_wide wsX6_wide rmX6_wide [.ref x9, .int (nI cq)] [(x9, .inr (10, [.int th, .int (nI ch), .int era, .int why, .int det, .int cau, .int (zI sv), .int (zI rj), .ref v9, .ref b9, .ref s9, .ref k9, .ref p9, .ref t9, .ref n9, .int (nI tn), .int (nI he), .int (nI en), .int (nI ln), .int (zI iw), .int (zI dg)])), (v9, .inl (cy 0, 188, .inl v))] (some (.int (zwd6 v rw cq 24))) [(x9, .inr (10, [.int th, .int (nI ch), .int era, .int why, .int det, .int cau, .int (zI sv), .int (zI rj), .ref v9, .ref b9, .ref s9, .ref k9, .ref p9, .ref t9, .ref n9, .int (nI tn), .int (nI he), .int (nI en), .int (nI ln), .int (zI iw), .int (zI dg)])), (v9, .inl (cy 0, 188, .inl v))] := by
  refine zM_of (cc := cX6_wide) (maxL := 4) (ret := (some .int)) (by decide) rfl (Nat.le_of_ble_eq_true rfl) ?_
  intro p e s m below meth c A Q hend hx hb hml hr hts hown hlk hG hK hP hD hA hS ls hl
  have hown : s.vm.findClass RX6 = some m.cls := hown
  have hl : lv_has ls 4 [(0, .ref x9), (1, .int (nI cq))] := hl
  refine lv_iconst (v := 0) hx hb dX6_wide_0 (by decide) ?_
  refine lv_istore_n (lv' := [(2, .int 0), (0, .ref x9), (1, .int (nI cq))]) hx hb dX6_wide_1 rfl hl (by decide) rfl (fun ls hl => ?_)
  refine lv_iconst (v := 0) hx hb dX6_wide_2 (by decide) ?_
  refine lv_istore_n (lv' := [(3, .int 0), (2, .int 0), (0, .ref x9), (1, .int (nI cq))]) hx hb dX6_wide_3 rfl hl (by decide) rfl (fun ls hl => ?_)
  have L4 : ∀ (F : Nat) (k : Nat) (x4_0 : Int32), k ≤ 24 → 24 - k < F → x4_0 = zwd6 v rw cq k → ∀ (H : Heap) (locs : List Loc), va_P D vwCl [(x9, .inr (10, [.int th, .int (nI ch), .int era, .int why, .int det, .int cau, .int (zI sv), .int (zI rj), .ref v9, .ref b9, .ref s9, .ref k9, .ref p9, .ref t9, .ref n9, .int (nI tn), .int (nI he), .int (nI en), .int (nI ln), .int (zI iw), .int (zI dg)])), (v9, .inl (cy 0, 188, .inl v))] H → va_D A [(x9, .inr (10, [.int th, .int (nI ch), .int era, .int why, .int det, .int cau, .int (zI sv), .int (zI rj), .ref v9, .ref b9, .ref s9, .ref k9, .ref p9, .ref t9, .ref n9, .int (nI tn), .int (nI he), .int (nI en), .int (nI ln), .int (zI iw), .int (zI dg)])), (v9, .inl (cy 0, 188, .inl v))] → va_S A s.heap H locs → ∀ ls : Array Slot, lv_has ls 4 [(0, .ref x9), (1, .int (nI cq)), (2, .int x4_0), (3, .int (nI k))] → W p l e rmX6_wide s m ([.ref x9, .int (nI cq)] : List Value).toArray below meth c H locs 0 0 Q (F0 m 4 ls []) := by
    intro F
    induction F with
    | zero =>
      intro k x4_0 hk hF ex4_0 H locs hP hD hS ls hl
      exact absurd hF (Nat.not_lt_zero _)
    | succ F ih4 =>
      intro k x4_0 hk hF ex4_0 H locs hP hD hS ls hl
      subst ex4_0
      refine lv_iload_n hx hb dX6_wide_4 rfl (lv_at hl 3 rfl) ?_
      refine lv_bipush (v := 24) hx hb dX6_wide_5 (by decide) ?_
      refine lv_icmp_ge (tgt := 33) hx hb dX6_wide_7 (by decide) (fun c_1 => ?_) (fun c_1 => ?_)
      · have hk2 : 24 ≤ k := (nI_leI (by omega) (by omega)).mp c_1
        obtain rfl : 24 = k := by omega
        refine lv_iload_n hx hb dX6_wide_33 rfl (lv_at hl 2 rfl) ?_
        exact ziret hend hx hb hr hlk hK hP hD hS dX6_wide_34 rfl rfl
      · have hk2 : k < 24 := Nat.lt_of_not_le (fun z => c_1 (nI_le z (by omega)))
        refine lv_iload_n hx hb dX6_wide_10 rfl (lv_at hl 2 rfl) ?_
        refine lv_aload_n hx hb dX6_wide_11 rfl (lv_at hl 0 rfl) ?_
        refine lv_iload_n hx hb dX6_wide_12 rfl (lv_at hl 3 rfl) ?_
        refine lv_iload_n hx hb dX6_wide_13 rfl (lv_at hl 1 rfl) ?_
        refine zcV (As := [.int (nI k), .int (nI cq)]) (rest := [.int (zwd6 v rw cq k)]) [0, 1] 0 hg.1 ⟨hx, hb, hml, hown, hts⟩ (c_X6_knits hg l D cy x9 th ch era why det cau sv rj v9 b9 s9 k9 p9 t9 n9 tn he en ln iw dg v k cq rw (by first | assumption | omega) (by first | assumption | omega) (by first | assumption | omega) (by first | assumption | omega)) (cwV 2 hts gX6_wide_X6_knits rfl rfl rfl (by decide +kernel) ⟨Nat.le_of_ble_eq_true rfl, Nat.le_of_ble_eq_true rfl⟩) hG hK hP hD hS hA rfl rfl rfl rfl rfl rfl hl.1 rfl (Nat.le_of_ble_eq_true rfl) dX6_wide_14 ⟨Nat.zero_le _, Nat.zero_le _⟩ (fun H locs hP hD hS => ?_)
        have hP : va_P D vwCl [(x9, .inr (10, [.int th, .int (nI ch), .int era, .int why, .int det, .int cau, .int (zI sv), .int (zI rj), .ref v9, .ref b9, .ref s9, .ref k9, .ref p9, .ref t9, .ref n9, .int (nI tn), .int (nI he), .int (nI en), .int (nI ln), .int (zI iw), .int (zI dg)])), (v9, .inl (cy 0, 188, .inl v))] H := hP
        have hD : va_D A [(x9, .inr (10, [.int th, .int (nI ch), .int era, .int why, .int det, .int cau, .int (zI sv), .int (zI rj), .ref v9, .ref b9, .ref s9, .ref k9, .ref p9, .ref t9, .ref n9, .int (nI tn), .int (nI he), .int (nI en), .int (nI ln), .int (zI iw), .int (zI dg)])), (v9, .inl (cy 0, 188, .inl v))] := hD
        refine lv_if_eq (tgt := 24) hx hb dX6_wide_17 (by decide) (fun c_2 => ?_) (fun c_2 => ?_)
        · replace c_2 := zI0 c_2
          refine lv_iconst (v := 0) hx hb dX6_wide_24 (by decide) ?_
          refine lv_iadd hx hb dX6_wide_25 ?_
          refine lv_istore_n (lv' := [(2, .int ((zwd6 v rw cq k) + 0)), (0, .ref x9), (1, .int (nI cq)), (3, .int (nI k))]) hx hb dX6_wide_26 rfl hl (by decide) rfl (fun ls hl => ?_)
          refine lv_iinc (v := nI (k + 1)) (lv' := [(3, .int (nI (k + 1))), (2, .int ((zwd6 v rw cq k) + 0)), (0, .ref x9), (1, .int (nI cq))]) hx hb dX6_wide_27 hl (k := 3) rfl (by rw [show Int32.ofInt 1 = nI 1 from rfl, nI_add]) (by decide) rfl (fun ls hl => ?_)
          refine lv_goto (tgt := 4) hx hb dX6_wide_30 (by decide) ?_
          exact ih4 (k + 1) ((zwd6 v rw cq k) + 0) (by omega) (by omega) (by first | (simp only [zwd6, Int32.add_zero, c_1, c_2, decide_true, decide_false, Bool.not_true, Bool.not_false, Bool.and_true, Bool.true_and, Bool.and_false, Bool.false_and, Bool.or_false, Bool.false_or, Bool.or_true, Bool.true_or, ↓reduceIte, Bool.false_eq_true, not_true_eq_false, not_false_eq_true, and_self]; done) | (simp [zwd6, Int32.add_zero, c_1, c_2]; done) | (simp_all [zwd6, Int32.add_zero]; done)) H locs hP hD hS ls (lv_sub hl [2, 3, 1, 0] rfl)
        · replace c_2 := zI1 c_2
          refine lv_iconst (v := 1) hx hb dX6_wide_20 (by decide) ?_
          refine lv_goto (tgt := 25) hx hb dX6_wide_21 (by decide) ?_
          refine lv_iadd hx hb dX6_wide_25 ?_
          refine lv_istore_n (lv' := [(2, .int ((zwd6 v rw cq k) + 1)), (0, .ref x9), (1, .int (nI cq)), (3, .int (nI k))]) hx hb dX6_wide_26 rfl hl (by decide) rfl (fun ls hl => ?_)
          refine lv_iinc (v := nI (k + 1)) (lv' := [(3, .int (nI (k + 1))), (2, .int ((zwd6 v rw cq k) + 1)), (0, .ref x9), (1, .int (nI cq))]) hx hb dX6_wide_27 hl (k := 3) rfl (by rw [show Int32.ofInt 1 = nI 1 from rfl, nI_add]) (by decide) rfl (fun ls hl => ?_)
          refine lv_goto (tgt := 4) hx hb dX6_wide_30 (by decide) ?_
          exact ih4 (k + 1) ((zwd6 v rw cq k) + 1) (by omega) (by omega) (by first | (simp only [zwd6, Int32.add_zero, c_1, c_2, decide_true, decide_false, Bool.not_true, Bool.not_false, Bool.and_true, Bool.true_and, Bool.and_false, Bool.false_and, Bool.or_false, Bool.false_or, Bool.or_true, Bool.true_or, ↓reduceIte, Bool.false_eq_true, not_true_eq_false, not_false_eq_true, and_self]; done) | (simp [zwd6, Int32.add_zero, c_1, c_2]; done) | (simp_all [zwd6, Int32.add_zero]; done)) H locs hP hD hS ls (lv_sub hl [2, 3, 1, 0] rfl)
  exact L4 (24 - 0 + 1) 0 0 (by omega) (Nat.lt_succ_self _) (by rfl) s.heap [] hP hD hS ls (lv_sub hl [2, 3, 1, 0] rfl)

abbrev rmX6_passes : Room := { frames := 2, cells := 0, slots := 0, locals := 44 }
set_option maxHeartbeats 4000000 in
set_option maxRecDepth 100000 in
theorem c_X6_passes {G : zG} (hg : zGN G) (l : Launch) (D : va_G) (cy : Nat → ClassId) (x9 : Nat) (th : Int32) (ch : Nat) (era : Int32) (why : Int32) (det : Int32) (cau : Int32) (sv : Bool) (rj : Bool) (v9 : Nat) (b9 : Nat) (s9 : Nat) (k9 : Nat) (p9 : Nat) (t9 : Nat) (n9 : Nat) (tn : Nat) (he : Nat) (en : Nat) (ln : Nat) (iw : Bool) (dg : Bool) (v : Nat → Int32) (cq : Nat) (rw : Nat) (hv4 : v 4 = nI rw) (hrw : rw ≤ 6) (hcq : cq < 1000) : zM G D vwCl (zT cy) l yX6_passes wsX6_passes rmX6_passes [.ref x9, .int (nI cq)] [(x9, .inr (10, [.int th, .int (nI ch), .int era, .int why, .int det, .int cau, .int (zI sv), .int (zI rj), .ref v9, .ref b9, .ref s9, .ref k9, .ref p9, .ref t9, .ref n9, .int (nI tn), .int (nI he), .int (nI en), .int (nI ln), .int (zI iw), .int (zI dg)])), (v9, .inl (cy 0, 188, .inl v))] (some (.int (zpsD (zst6 v rw cq 24) v 24))) [(x9, .inr (10, [.int th, .int (nI ch), .int era, .int why, .int det, .int cau, .int (zI sv), .int (zI rj), .ref v9, .ref b9, .ref s9, .ref k9, .ref p9, .ref t9, .ref n9, .int (nI tn), .int (nI he), .int (nI en), .int (nI ln), .int (zI iw), .int (zI dg)])), (v9, .inl (cy 0, 188, .inl (zpsV (zst6 v rw cq 24) v 24)))] := by
  refine zM_of (cc := cX6_passes) (maxL := 6) (ret := (some .int)) (by decide) rfl (Nat.le_of_ble_eq_true rfl) ?_
  intro p e s m below meth c A Q hend hx hb hml hr hts hown hlk hG hK hP hD hA hS ls hl
  have hown : s.vm.findClass RX6 = some m.cls := hown
  have in_RX6 : ∀ w ∈ u_ws RX6 TX6 21, w ∈ wsX6_passes := by decide +kernel
  have hl : lv_has ls 6 [(0, .ref x9), (1, .int (nI cq))] := hl
  refine lv_iconst (v := 0) hx hb dX6_passes_0 (by decide) ?_
  refine lv_istore_n (lv' := [(2, .int 0), (0, .ref x9), (1, .int (nI cq))]) hx hb dX6_passes_1 rfl hl (by decide) rfl (fun ls hl => ?_)
  refine lv_iconst (v := 0) hx hb dX6_passes_2 (by decide) ?_
  refine lv_istore_n (lv' := [(3, .int 0), (2, .int 0), (0, .ref x9), (1, .int (nI cq))]) hx hb dX6_passes_3 rfl hl (by decide) rfl (fun ls hl => ?_)
  refine lv_iconst (v := 0) hx hb dX6_passes_4 (by decide) ?_
  refine lv_istore (lv' := [(4, .int 0), (3, .int 0), (2, .int 0), (0, .ref x9), (1, .int (nI cq))]) hx hb dX6_passes_5 hl (by decide) rfl (fun ls hl => ?_)
  have L7 : ∀ (F : Nat) (k : Nat) (x7_0 : Int32), k ≤ 24 → 24 - k < F → x7_0 = zst6 v rw cq k → ∀ (H : Heap) (locs : List Loc), va_P D vwCl [(x9, .inr (10, [.int th, .int (nI ch), .int era, .int why, .int det, .int cau, .int (zI sv), .int (zI rj), .ref v9, .ref b9, .ref s9, .ref k9, .ref p9, .ref t9, .ref n9, .int (nI tn), .int (nI he), .int (nI en), .int (nI ln), .int (zI iw), .int (zI dg)])), (v9, .inl (cy 0, 188, .inl v))] H → va_D A [(x9, .inr (10, [.int th, .int (nI ch), .int era, .int why, .int det, .int cau, .int (zI sv), .int (zI rj), .ref v9, .ref b9, .ref s9, .ref k9, .ref p9, .ref t9, .ref n9, .int (nI tn), .int (nI he), .int (nI en), .int (nI ln), .int (zI iw), .int (zI dg)])), (v9, .inl (cy 0, 188, .inl v))] → va_S A s.heap H locs → ∀ ls : Array Slot, lv_has ls 6 [(0, .ref x9), (1, .int (nI cq)), (2, .int x7_0), (3, .int 0), (4, .int (nI k))] → W p l e rmX6_passes s m ([.ref x9, .int (nI cq)] : List Value).toArray below meth c H locs 0 0 Q (F0 m 7 ls []) := by
    intro F
    induction F with
    | zero =>
      intro k x7_0 hk hF ex7_0 H locs hP hD hS ls hl
      exact absurd hF (Nat.not_lt_zero _)
    | succ F ih7 =>
      intro k x7_0 hk hF ex7_0 H locs hP hD hS ls hl
      subst ex7_0
      refine lv_iload hx hb dX6_passes_7 (lv_at hl 4 rfl) ?_
      refine lv_bipush (v := 24) hx hb dX6_passes_9 (by decide) ?_
      refine lv_icmp_ge (tgt := 41) hx hb dX6_passes_11 (by decide) (fun c_1 => ?_) (fun c_1 => ?_)
      · have hk2 : 24 ≤ k := (nI_leI (by omega) (by omega)).mp c_1
        obtain rfl : 24 = k := by omega
        refine lv_iconst (v := 0) hx hb dX6_passes_41 (by decide) ?_
        refine lv_istore (lv' := [(4, .int 0), (0, .ref x9), (1, .int (nI cq)), (2, .int (zst6 v rw cq 24)), (3, .int 0)]) hx hb dX6_passes_42 hl (by decide) rfl (fun ls hl => ?_)
        have L44 : ∀ (F : Nat) (k : Nat) (x44_0 : Int32) (x44_1 : Nat → Int32), k ≤ 24 → 24 - k < F → x44_0 = zpsD (zst6 v rw cq 24) v k → x44_1 = zpsV (zst6 v rw cq 24) v k → ∀ (H : Heap) (locs : List Loc), va_P D vwCl [(x9, .inr (10, [.int th, .int (nI ch), .int era, .int why, .int det, .int cau, .int (zI sv), .int (zI rj), .ref v9, .ref b9, .ref s9, .ref k9, .ref p9, .ref t9, .ref n9, .int (nI tn), .int (nI he), .int (nI en), .int (nI ln), .int (zI iw), .int (zI dg)])), (v9, .inl (cy 0, 188, .inl x44_1))] H → va_D A [(x9, .inr (10, [.int th, .int (nI ch), .int era, .int why, .int det, .int cau, .int (zI sv), .int (zI rj), .ref v9, .ref b9, .ref s9, .ref k9, .ref p9, .ref t9, .ref n9, .int (nI tn), .int (nI he), .int (nI en), .int (nI ln), .int (zI iw), .int (zI dg)])), (v9, .inl (cy 0, 188, .inl x44_1))] → va_S A s.heap H locs → ∀ ls : Array Slot, lv_has ls 6 [(0, .ref x9), (1, .int (nI cq)), (2, .int (zst6 v rw cq 24)), (3, .int x44_0), (4, .int (nI k))] → W p l e rmX6_passes s m ([.ref x9, .int (nI cq)] : List Value).toArray below meth c H locs 0 0 Q (F0 m 44 ls []) := by
          intro F
          induction F with
          | zero =>
            intro k x44_0 x44_1 hk hF ex44_0 ex44_1 H locs hP hD hS ls hl
            exact absurd hF (Nat.not_lt_zero _)
          | succ F ih44 =>
            intro k x44_0 x44_1 hk hF ex44_0 ex44_1 H locs hP hD hS ls hl
            subst ex44_0
            subst ex44_1
            refine lv_iload hx hb dX6_passes_44 (lv_at hl 4 rfl) ?_
            refine lv_bipush (v := 24) hx hb dX6_passes_46 (by decide) ?_
            refine lv_icmp_ge (tgt := 183) hx hb dX6_passes_48 (by decide) (fun c_2 => ?_) (fun c_2 => ?_)
            · have hk2 : 24 ≤ k := (nI_leI (by omega) (by omega)).mp c_2
              obtain rfl : 24 = k := by omega
              refine lv_iload_n hx hb dX6_passes_183 rfl (lv_at hl 3 rfl) ?_
              exact ziret hend hx hb hr hlk hK hP hD hS dX6_passes_184 rfl rfl
            · have hk2 : k < 24 := Nat.lt_of_not_le (fun z => c_2 (nI_le z (by omega)))
              refine lv_iload_n hx hb dX6_passes_51 rfl (lv_at hl 2 rfl) ?_
              refine lv_iload hx hb dX6_passes_52 (lv_at hl 4 rfl) ?_
              refine lv_ishr hx hb dX6_passes_54 ?_
              refine lv_iconst (v := 1) hx hb dX6_passes_55 (by decide) ?_
              refine lv_iand hx hb dX6_passes_56 ?_
              refine lv_if_ne (tgt := 94) hx hb dX6_passes_57 (by decide) (fun c_3 => ?_) (fun c_3 => ?_)
              · refine lv_iconst (v := 0) hx hb dX6_passes_94 (by decide) ?_
                refine lv_istore (lv' := [(5, .int 0), (0, .ref x9), (1, .int (nI cq)), (2, .int (zst6 v rw cq 24)), (3, .int (zpsD (zst6 v rw cq 24) v k)), (4, .int (nI k))]) hx hb dX6_passes_95 hl (by decide) rfl (fun ls hl => ?_)
                refine lv_iload_n hx hb dX6_passes_97 rfl (lv_at hl 4 rfl) ?_
                refine lv_iload hx hb dX6_passes_98 (lv_at hl 0 rfl) ?_
                refine lv_if_eq (tgt := 116) hx hb dX6_passes_100 (by decide) (fun c_4 => ?_) (fun c_4 => ?_)
                · refine lv_iconst (v := 0) hx hb dX6_passes_116 (by decide) ?_
                  refine lv_iadd hx hb dX6_passes_117 ?_
                  refine lv_istore_n (lv' := [(3, .int ((zpsD (zst6 v rw cq 24) v k) + 0)), (5, .int 0), (0, .ref x9), (1, .int (nI cq)), (2, .int (zst6 v rw cq 24)), (4, .int (nI k))]) hx hb dX6_passes_118 rfl hl (by decide) rfl (fun ls hl => ?_)
                  refine lv_iload_n hx hb dX6_passes_119 rfl (lv_at hl 4 rfl) ?_
                  refine lv_iload hx hb dX6_passes_120 (lv_at hl 5 rfl) ?_
                  refine lv_ishr hx hb dX6_passes_122 ?_
                  refine lv_iconst (v := 1) hx hb dX6_passes_123 (by decide) ?_
                  refine lv_iand hx hb dX6_passes_124 ?_
                  refine lv_iconst (v := 1) hx hb dX6_passes_125 (by decide) ?_
                  refine lv_icmp_ne (tgt := 140) hx hb dX6_passes_126 (by decide) (fun c_5 => ?_) (fun c_5 => ?_)
                  · refine lv_aload_n hx hb dX6_passes_140 rfl (lv_at hl 2 rfl) ?_
                    refine lv_iload hx hb dX6_passes_141 (lv_at hl 5 rfl) ?_
                    refine lv_iload hx hb dX6_passes_143 (lv_at hl 1 rfl) ?_
                    refine lv_if_eq (tgt := 152) hx hb dX6_passes_145 (by decide) (fun c_6 => ?_) (fun c_6 => ?_)
                    · refine lv_aload_n hx hb dX6_passes_152 rfl (lv_at hl 2 rfl) ?_
                      refine va_get (D := D) (ci := 10) (v := .ref v9) (C := RX6) (T := TX6) (N := 21) hx hb hts in_RX6 hown hK hP 0 rfl rfl 8 (by decide) (hts _ (List.mem_of_getElem? (i := 1) rfl)) (fun _ h9 => h9) rfl dX6_passes_153 ?_
                      refine lv_bipush (v := 10) hx hb dX6_passes_156 (by decide) ?_
                      refine lv_iload hx hb dX6_passes_158 (lv_at hl 5 rfl) ?_
                      refine lv_iadd hx hb dX6_passes_160 ?_
                      refine z_top (y := nI (10 + k)) (nI_add 10 k) ?_
                      refine ziald 1 0 (10 + k) hx hb hK hP rfl rfl (by omega) (z_lt rfl) dX6_passes_161 ?_
                      refine lv_aload_n hx hb dX6_passes_162 rfl (lv_at hl 2 rfl) ?_
                      refine va_get (D := D) (ci := 10) (v := .ref v9) (C := RX6) (T := TX6) (N := 21) hx hb hts in_RX6 hown hK hP 0 rfl rfl 8 (by decide) (hts _ (List.mem_of_getElem? (i := 1) rfl)) (fun _ h9 => h9) rfl dX6_passes_163 ?_
                      refine lv_bipush (v := 34) hx hb dX6_passes_166 (by decide) ?_
                      refine lv_iload hx hb dX6_passes_168 (lv_at hl 5 rfl) ?_
                      refine lv_iadd hx hb dX6_passes_170 ?_
                      refine z_top (y := nI (34 + k)) (nI_add 34 k) ?_
                      refine ziald 1 0 (34 + k) hx hb hK hP rfl rfl (by omega) (z_lt rfl) dX6_passes_171 ?_
                      refine lv_iconst (v := 1) hx hb dX6_passes_172 (by decide) ?_
                      refine lv_iadd hx hb dX6_passes_173 ?_
                      refine zcV (As := [.int (nI k), .int ((zpsV (zst6 v rw cq 24) v k) (10 + k)), .int (((zpsV (zst6 v rw cq 24) v k) (34 + k)) + 1)]) (rest := []) [0, 1] 0 hg.1 ⟨hx, hb, hml, hown, hts⟩ (c_X6_puts hg l D cy x9 th ch era why det cau sv rj v9 b9 s9 k9 p9 t9 n9 tn he en ln iw dg (zpsV (zst6 v rw cq 24) v k) k ((zpsV (zst6 v rw cq 24) v k) (10 + k)) (((zpsV (zst6 v rw cq 24) v k) (34 + k)) + 1) (by first | assumption | omega)) (cwV 3 hts gX6_passes_X6_puts rfl rfl rfl (by decide +kernel) ⟨Nat.le_of_ble_eq_true rfl, Nat.le_of_ble_eq_true rfl⟩) hG hK hP hD hS hA rfl rfl (Eq.trans (b := [x9, v9]) rfl rfl) rfl rfl rfl hl.1 rfl (Nat.le_of_ble_eq_true rfl) dX6_passes_174 ⟨Nat.zero_le _, Nat.zero_le _⟩ (fun H locs hP hD hS => ?_)
                      have hP : va_P D vwCl [(x9, .inr (10, [.int th, .int (nI ch), .int era, .int why, .int det, .int cau, .int (zI sv), .int (zI rj), .ref v9, .ref b9, .ref s9, .ref k9, .ref p9, .ref t9, .ref n9, .int (nI tn), .int (nI he), .int (nI en), .int (nI ln), .int (zI iw), .int (zI dg)])), (v9, .inl (cy 0, 188, .inl (zpt (zpsV (zst6 v rw cq 24) v k) k ((zpsV (zst6 v rw cq 24) v k) (10 + k)) (((zpsV (zst6 v rw cq 24) v k) (34 + k)) + 1))))] H := hP
                      have hD : va_D A [(x9, .inr (10, [.int th, .int (nI ch), .int era, .int why, .int det, .int cau, .int (zI sv), .int (zI rj), .ref v9, .ref b9, .ref s9, .ref k9, .ref p9, .ref t9, .ref n9, .int (nI tn), .int (nI he), .int (nI en), .int (nI ln), .int (zI iw), .int (zI dg)])), (v9, .inl (cy 0, 188, .inl (zpt (zpsV (zst6 v rw cq 24) v k) k ((zpsV (zst6 v rw cq 24) v k) (10 + k)) (((zpsV (zst6 v rw cq 24) v k) (34 + k)) + 1))))] := hD
                      refine lv_iinc (v := nI (k + 1)) (lv' := [(4, .int (nI (k + 1))), (3, .int ((zpsD (zst6 v rw cq 24) v k) + 0)), (5, .int 0), (0, .ref x9), (1, .int (nI cq)), (2, .int (zst6 v rw cq 24))]) hx hb dX6_passes_177 hl (k := 5) rfl (by rw [show Int32.ofInt 1 = nI 1 from rfl, nI_add]) (by decide) rfl (fun ls hl => ?_)
                      refine lv_goto (tgt := 44) hx hb dX6_passes_180 (by decide) ?_
                      exact ih44 (k + 1) ((zpsD (zst6 v rw cq 24) v k) + 0) (zpt (zpsV (zst6 v rw cq 24) v k) k ((zpsV (zst6 v rw cq 24) v k) (10 + k)) (((zpsV (zst6 v rw cq 24) v k) (34 + k)) + 1)) (by omega) (by omega) (by first | (simp only [zpsV, zpsD, zpsX, Int32.add_zero, c_2, c_3, c_4, c_5, c_6, decide_true, decide_false, Bool.not_true, Bool.not_false, Bool.and_true, Bool.true_and, Bool.and_false, Bool.false_and, Bool.or_false, Bool.false_or, Bool.or_true, Bool.true_or, ↓reduceIte, Bool.false_eq_true, not_true_eq_false, not_false_eq_true, and_self]; done) | (simp [zpsV, zpsD, zpsX, Int32.add_zero, c_2, c_3, c_4, c_5, c_6]; done) | (simp_all [zpsV, zpsD, zpsX, Int32.add_zero]; done)) (by first | (simp only [zpsV, zpsD, zpsX, Int32.add_zero, c_2, c_3, c_4, c_5, c_6, decide_true, decide_false, Bool.not_true, Bool.not_false, Bool.and_true, Bool.true_and, Bool.and_false, Bool.false_and, Bool.or_false, Bool.false_or, Bool.or_true, Bool.true_or, ↓reduceIte, Bool.false_eq_true, not_true_eq_false, not_false_eq_true, and_self]; done) | (simp [zpsV, zpsD, zpsX, Int32.add_zero, c_2, c_3, c_4, c_5, c_6]; done) | (simp_all [zpsV, zpsD, zpsX, Int32.add_zero]; done)) H locs hP hD hS ls (lv_sub hl [3, 4, 5, 1, 0] rfl)
                    · exact absurd c_6 (by decide)
                  · refine lv_aload_n hx hb dX6_passes_129 rfl (lv_at hl 2 rfl) ?_
                    refine lv_iload hx hb dX6_passes_130 (lv_at hl 5 rfl) ?_
                    refine lv_iconst (v := 1) hx hb dX6_passes_132 (by decide) ?_
                    refine lv_iconst (v := 0) hx hb dX6_passes_133 (by decide) ?_
                    refine zcV (As := [.int (nI k), .int 1, .int 0]) (rest := []) [0, 1] 0 hg.1 ⟨hx, hb, hml, hown, hts⟩ (c_X6_puts hg l D cy x9 th ch era why det cau sv rj v9 b9 s9 k9 p9 t9 n9 tn he en ln iw dg (zpsV (zst6 v rw cq 24) v k) k 1 0 (by first | assumption | omega)) (cwV 3 hts gX6_passes_X6_puts rfl rfl rfl (by decide +kernel) ⟨Nat.le_of_ble_eq_true rfl, Nat.le_of_ble_eq_true rfl⟩) hG hK hP hD hS hA rfl rfl (Eq.trans (b := [x9, v9]) rfl rfl) rfl rfl rfl hl.1 rfl (Nat.le_of_ble_eq_true rfl) dX6_passes_134 ⟨Nat.zero_le _, Nat.zero_le _⟩ (fun H locs hP hD hS => ?_)
                    have hP : va_P D vwCl [(x9, .inr (10, [.int th, .int (nI ch), .int era, .int why, .int det, .int cau, .int (zI sv), .int (zI rj), .ref v9, .ref b9, .ref s9, .ref k9, .ref p9, .ref t9, .ref n9, .int (nI tn), .int (nI he), .int (nI en), .int (nI ln), .int (zI iw), .int (zI dg)])), (v9, .inl (cy 0, 188, .inl (zpt (zpsV (zst6 v rw cq 24) v k) k 1 0)))] H := hP
                    have hD : va_D A [(x9, .inr (10, [.int th, .int (nI ch), .int era, .int why, .int det, .int cau, .int (zI sv), .int (zI rj), .ref v9, .ref b9, .ref s9, .ref k9, .ref p9, .ref t9, .ref n9, .int (nI tn), .int (nI he), .int (nI en), .int (nI ln), .int (zI iw), .int (zI dg)])), (v9, .inl (cy 0, 188, .inl (zpt (zpsV (zst6 v rw cq 24) v k) k 1 0)))] := hD
                    refine lv_goto (tgt := 177) hx hb dX6_passes_137 (by decide) ?_
                    refine lv_iinc (v := nI (k + 1)) (lv' := [(4, .int (nI (k + 1))), (3, .int ((zpsD (zst6 v rw cq 24) v k) + 0)), (5, .int 0), (0, .ref x9), (1, .int (nI cq)), (2, .int (zst6 v rw cq 24))]) hx hb dX6_passes_177 hl (k := 5) rfl (by rw [show Int32.ofInt 1 = nI 1 from rfl, nI_add]) (by decide) rfl (fun ls hl => ?_)
                    refine lv_goto (tgt := 44) hx hb dX6_passes_180 (by decide) ?_
                    exact ih44 (k + 1) ((zpsD (zst6 v rw cq 24) v k) + 0) (zpt (zpsV (zst6 v rw cq 24) v k) k 1 0) (by omega) (by omega) (by first | (simp only [zpsV, zpsD, zpsX, Int32.add_zero, c_2, c_3, c_4, c_5, decide_true, decide_false, Bool.not_true, Bool.not_false, Bool.and_true, Bool.true_and, Bool.and_false, Bool.false_and, Bool.or_false, Bool.false_or, Bool.or_true, Bool.true_or, ↓reduceIte, Bool.false_eq_true, not_true_eq_false, not_false_eq_true, and_self]; done) | (simp [zpsV, zpsD, zpsX, Int32.add_zero, c_2, c_3, c_4, c_5]; done) | (simp_all [zpsV, zpsD, zpsX, Int32.add_zero]; done)) (by first | (simp only [zpsV, zpsD, zpsX, Int32.add_zero, c_2, c_3, c_4, c_5, decide_true, decide_false, Bool.not_true, Bool.not_false, Bool.and_true, Bool.true_and, Bool.and_false, Bool.false_and, Bool.or_false, Bool.false_or, Bool.or_true, Bool.true_or, ↓reduceIte, Bool.false_eq_true, not_true_eq_false, not_false_eq_true, and_self]; done) | (simp [zpsV, zpsD, zpsX, Int32.add_zero, c_2, c_3, c_4, c_5]; done) | (simp_all [zpsV, zpsD, zpsX, Int32.add_zero]; done)) H locs hP hD hS ls (lv_sub hl [3, 4, 5, 1, 0] rfl)
                · exact absurd c_4 (by decide)
              · have hx0 := c_3
                refine lv_aload_n hx hb dX6_passes_60 rfl (lv_at hl 0 rfl) ?_
                refine va_get (D := D) (ci := 10) (v := .ref v9) (C := RX6) (T := TX6) (N := 21) hx hb hts in_RX6 hown hK hP 0 rfl rfl 8 (by decide) (hts _ (List.mem_of_getElem? (i := 1) rfl)) (fun _ h9 => h9) rfl dX6_passes_61 ?_
                refine lv_bipush (v := 34) hx hb dX6_passes_64 (by decide) ?_
                refine lv_iload hx hb dX6_passes_66 (lv_at hl 4 rfl) ?_
                refine lv_iadd hx hb dX6_passes_68 ?_
                refine z_top (y := nI (34 + k)) (nI_add 34 k) ?_
                refine ziald 1 0 (34 + k) hx hb hK hP rfl rfl (by omega) (z_lt rfl) dX6_passes_69 ?_
                refine lv_iconst (v := 1) hx hb dX6_passes_70 (by decide) ?_
                refine lv_iadd hx hb dX6_passes_71 ?_
                refine lv_bipush (v := 6) hx hb dX6_passes_72 (by decide) ?_
                refine lv_icmp_ne (tgt := 94) hx hb dX6_passes_74 (by decide) (fun c_7 => ?_) (fun c_7 => ?_)
                · refine lv_iconst (v := 0) hx hb dX6_passes_94 (by decide) ?_
                  refine lv_istore (lv' := [(5, .int 0), (0, .ref x9), (1, .int (nI cq)), (2, .int (zst6 v rw cq 24)), (3, .int (zpsD (zst6 v rw cq 24) v k)), (4, .int (nI k))]) hx hb dX6_passes_95 hl (by decide) rfl (fun ls hl => ?_)
                  refine lv_iload_n hx hb dX6_passes_97 rfl (lv_at hl 4 rfl) ?_
                  refine lv_iload hx hb dX6_passes_98 (lv_at hl 0 rfl) ?_
                  refine lv_if_eq (tgt := 116) hx hb dX6_passes_100 (by decide) (fun c_8 => ?_) (fun c_8 => ?_)
                  · refine lv_iconst (v := 0) hx hb dX6_passes_116 (by decide) ?_
                    refine lv_iadd hx hb dX6_passes_117 ?_
                    refine lv_istore_n (lv' := [(3, .int ((zpsD (zst6 v rw cq 24) v k) + 0)), (5, .int 0), (0, .ref x9), (1, .int (nI cq)), (2, .int (zst6 v rw cq 24)), (4, .int (nI k))]) hx hb dX6_passes_118 rfl hl (by decide) rfl (fun ls hl => ?_)
                    refine lv_iload_n hx hb dX6_passes_119 rfl (lv_at hl 4 rfl) ?_
                    refine lv_iload hx hb dX6_passes_120 (lv_at hl 5 rfl) ?_
                    refine lv_ishr hx hb dX6_passes_122 ?_
                    refine lv_iconst (v := 1) hx hb dX6_passes_123 (by decide) ?_
                    refine lv_iand hx hb dX6_passes_124 ?_
                    refine lv_iconst (v := 1) hx hb dX6_passes_125 (by decide) ?_
                    refine lv_icmp_ne (tgt := 140) hx hb dX6_passes_126 (by decide) (fun c_9 => ?_) (fun c_9 => ?_)
                    · refine lv_aload_n hx hb dX6_passes_140 rfl (lv_at hl 2 rfl) ?_
                      refine lv_iload hx hb dX6_passes_141 (lv_at hl 5 rfl) ?_
                      refine lv_iload hx hb dX6_passes_143 (lv_at hl 1 rfl) ?_
                      refine lv_if_eq (tgt := 152) hx hb dX6_passes_145 (by decide) (fun c_10 => ?_) (fun c_10 => ?_)
                      · refine lv_aload_n hx hb dX6_passes_152 rfl (lv_at hl 2 rfl) ?_
                        refine va_get (D := D) (ci := 10) (v := .ref v9) (C := RX6) (T := TX6) (N := 21) hx hb hts in_RX6 hown hK hP 0 rfl rfl 8 (by decide) (hts _ (List.mem_of_getElem? (i := 1) rfl)) (fun _ h9 => h9) rfl dX6_passes_153 ?_
                        refine lv_bipush (v := 10) hx hb dX6_passes_156 (by decide) ?_
                        refine lv_iload hx hb dX6_passes_158 (lv_at hl 5 rfl) ?_
                        refine lv_iadd hx hb dX6_passes_160 ?_
                        refine z_top (y := nI (10 + k)) (nI_add 10 k) ?_
                        refine ziald 1 0 (10 + k) hx hb hK hP rfl rfl (by omega) (z_lt rfl) dX6_passes_161 ?_
                        refine lv_aload_n hx hb dX6_passes_162 rfl (lv_at hl 2 rfl) ?_
                        refine va_get (D := D) (ci := 10) (v := .ref v9) (C := RX6) (T := TX6) (N := 21) hx hb hts in_RX6 hown hK hP 0 rfl rfl 8 (by decide) (hts _ (List.mem_of_getElem? (i := 1) rfl)) (fun _ h9 => h9) rfl dX6_passes_163 ?_
                        refine lv_bipush (v := 34) hx hb dX6_passes_166 (by decide) ?_
                        refine lv_iload hx hb dX6_passes_168 (lv_at hl 5 rfl) ?_
                        refine lv_iadd hx hb dX6_passes_170 ?_
                        refine z_top (y := nI (34 + k)) (nI_add 34 k) ?_
                        refine ziald 1 0 (34 + k) hx hb hK hP rfl rfl (by omega) (z_lt rfl) dX6_passes_171 ?_
                        refine lv_iconst (v := 1) hx hb dX6_passes_172 (by decide) ?_
                        refine lv_iadd hx hb dX6_passes_173 ?_
                        refine zcV (As := [.int (nI k), .int ((zpsV (zst6 v rw cq 24) v k) (10 + k)), .int (((zpsV (zst6 v rw cq 24) v k) (34 + k)) + 1)]) (rest := []) [0, 1] 0 hg.1 ⟨hx, hb, hml, hown, hts⟩ (c_X6_puts hg l D cy x9 th ch era why det cau sv rj v9 b9 s9 k9 p9 t9 n9 tn he en ln iw dg (zpsV (zst6 v rw cq 24) v k) k ((zpsV (zst6 v rw cq 24) v k) (10 + k)) (((zpsV (zst6 v rw cq 24) v k) (34 + k)) + 1) (by first | assumption | omega)) (cwV 3 hts gX6_passes_X6_puts rfl rfl rfl (by decide +kernel) ⟨Nat.le_of_ble_eq_true rfl, Nat.le_of_ble_eq_true rfl⟩) hG hK hP hD hS hA rfl rfl (Eq.trans (b := [x9, v9]) rfl rfl) rfl rfl rfl hl.1 rfl (Nat.le_of_ble_eq_true rfl) dX6_passes_174 ⟨Nat.zero_le _, Nat.zero_le _⟩ (fun H locs hP hD hS => ?_)
                        have hP : va_P D vwCl [(x9, .inr (10, [.int th, .int (nI ch), .int era, .int why, .int det, .int cau, .int (zI sv), .int (zI rj), .ref v9, .ref b9, .ref s9, .ref k9, .ref p9, .ref t9, .ref n9, .int (nI tn), .int (nI he), .int (nI en), .int (nI ln), .int (zI iw), .int (zI dg)])), (v9, .inl (cy 0, 188, .inl (zpt (zpsV (zst6 v rw cq 24) v k) k ((zpsV (zst6 v rw cq 24) v k) (10 + k)) (((zpsV (zst6 v rw cq 24) v k) (34 + k)) + 1))))] H := hP
                        have hD : va_D A [(x9, .inr (10, [.int th, .int (nI ch), .int era, .int why, .int det, .int cau, .int (zI sv), .int (zI rj), .ref v9, .ref b9, .ref s9, .ref k9, .ref p9, .ref t9, .ref n9, .int (nI tn), .int (nI he), .int (nI en), .int (nI ln), .int (zI iw), .int (zI dg)])), (v9, .inl (cy 0, 188, .inl (zpt (zpsV (zst6 v rw cq 24) v k) k ((zpsV (zst6 v rw cq 24) v k) (10 + k)) (((zpsV (zst6 v rw cq 24) v k) (34 + k)) + 1))))] := hD
                        refine lv_iinc (v := nI (k + 1)) (lv' := [(4, .int (nI (k + 1))), (3, .int ((zpsD (zst6 v rw cq 24) v k) + 0)), (5, .int 0), (0, .ref x9), (1, .int (nI cq)), (2, .int (zst6 v rw cq 24))]) hx hb dX6_passes_177 hl (k := 5) rfl (by rw [show Int32.ofInt 1 = nI 1 from rfl, nI_add]) (by decide) rfl (fun ls hl => ?_)
                        refine lv_goto (tgt := 44) hx hb dX6_passes_180 (by decide) ?_
                        exact ih44 (k + 1) ((zpsD (zst6 v rw cq 24) v k) + 0) (zpt (zpsV (zst6 v rw cq 24) v k) k ((zpsV (zst6 v rw cq 24) v k) (10 + k)) (((zpsV (zst6 v rw cq 24) v k) (34 + k)) + 1)) (by omega) (by omega) (by first | (simp only [zpsV, zpsD, zpsX, Int32.add_zero, c_2, c_3, c_7, c_8, c_9, c_10, decide_true, decide_false, Bool.not_true, Bool.not_false, Bool.and_true, Bool.true_and, Bool.and_false, Bool.false_and, Bool.or_false, Bool.false_or, Bool.or_true, Bool.true_or, ↓reduceIte, Bool.false_eq_true, not_true_eq_false, not_false_eq_true, and_self]; done) | (simp [zpsV, zpsD, zpsX, Int32.add_zero, c_2, c_3, c_7, c_8, c_9, c_10]; done) | (simp_all [zpsV, zpsD, zpsX, Int32.add_zero]; done)) (by first | (simp only [zpsV, zpsD, zpsX, Int32.add_zero, c_2, c_3, c_7, c_8, c_9, c_10, decide_true, decide_false, Bool.not_true, Bool.not_false, Bool.and_true, Bool.true_and, Bool.and_false, Bool.false_and, Bool.or_false, Bool.false_or, Bool.or_true, Bool.true_or, ↓reduceIte, Bool.false_eq_true, not_true_eq_false, not_false_eq_true, and_self]; done) | (simp [zpsV, zpsD, zpsX, Int32.add_zero, c_2, c_3, c_7, c_8, c_9, c_10]; done) | (simp_all [zpsV, zpsD, zpsX, Int32.add_zero]; done)) H locs hP hD hS ls (lv_sub hl [3, 4, 5, 1, 0] rfl)
                      · exact absurd c_10 (by decide)
                    · exact absurd (hx0.symm.trans c_9) (by decide)
                  · exact absurd c_8 (by decide)
                · refine lv_aload_n hx hb dX6_passes_77 rfl (lv_at hl 0 rfl) ?_
                  refine va_get (D := D) (ci := 10) (v := .ref v9) (C := RX6) (T := TX6) (N := 21) hx hb hts in_RX6 hown hK hP 0 rfl rfl 8 (by decide) (hts _ (List.mem_of_getElem? (i := 1) rfl)) (fun _ h9 => h9) rfl dX6_passes_78 ?_
                  refine lv_bipush (v := 10) hx hb dX6_passes_81 (by decide) ?_
                  refine lv_iload hx hb dX6_passes_83 (lv_at hl 4 rfl) ?_
                  refine lv_iadd hx hb dX6_passes_85 ?_
                  refine z_top (y := nI (10 + k)) (nI_add 10 k) ?_
                  refine ziald 1 0 (10 + k) hx hb hK hP rfl rfl (by omega) (z_lt rfl) dX6_passes_86 ?_
                  refine lv_if_le (tgt := 94) hx hb dX6_passes_87 (by decide) (fun c_11 => ?_) (fun c_11 => ?_)
                  · refine lv_iconst (v := 0) hx hb dX6_passes_94 (by decide) ?_
                    refine lv_istore (lv' := [(5, .int 0), (0, .ref x9), (1, .int (nI cq)), (2, .int (zst6 v rw cq 24)), (3, .int (zpsD (zst6 v rw cq 24) v k)), (4, .int (nI k))]) hx hb dX6_passes_95 hl (by decide) rfl (fun ls hl => ?_)
                    refine lv_iload_n hx hb dX6_passes_97 rfl (lv_at hl 4 rfl) ?_
                    refine lv_iload hx hb dX6_passes_98 (lv_at hl 0 rfl) ?_
                    refine lv_if_eq (tgt := 116) hx hb dX6_passes_100 (by decide) (fun c_12 => ?_) (fun c_12 => ?_)
                    · refine lv_iconst (v := 0) hx hb dX6_passes_116 (by decide) ?_
                      refine lv_iadd hx hb dX6_passes_117 ?_
                      refine lv_istore_n (lv' := [(3, .int ((zpsD (zst6 v rw cq 24) v k) + 0)), (5, .int 0), (0, .ref x9), (1, .int (nI cq)), (2, .int (zst6 v rw cq 24)), (4, .int (nI k))]) hx hb dX6_passes_118 rfl hl (by decide) rfl (fun ls hl => ?_)
                      refine lv_iload_n hx hb dX6_passes_119 rfl (lv_at hl 4 rfl) ?_
                      refine lv_iload hx hb dX6_passes_120 (lv_at hl 5 rfl) ?_
                      refine lv_ishr hx hb dX6_passes_122 ?_
                      refine lv_iconst (v := 1) hx hb dX6_passes_123 (by decide) ?_
                      refine lv_iand hx hb dX6_passes_124 ?_
                      refine lv_iconst (v := 1) hx hb dX6_passes_125 (by decide) ?_
                      refine lv_icmp_ne (tgt := 140) hx hb dX6_passes_126 (by decide) (fun c_13 => ?_) (fun c_13 => ?_)
                      · refine lv_aload_n hx hb dX6_passes_140 rfl (lv_at hl 2 rfl) ?_
                        refine lv_iload hx hb dX6_passes_141 (lv_at hl 5 rfl) ?_
                        refine lv_iload hx hb dX6_passes_143 (lv_at hl 1 rfl) ?_
                        refine lv_if_eq (tgt := 152) hx hb dX6_passes_145 (by decide) (fun c_14 => ?_) (fun c_14 => ?_)
                        · refine lv_aload_n hx hb dX6_passes_152 rfl (lv_at hl 2 rfl) ?_
                          refine va_get (D := D) (ci := 10) (v := .ref v9) (C := RX6) (T := TX6) (N := 21) hx hb hts in_RX6 hown hK hP 0 rfl rfl 8 (by decide) (hts _ (List.mem_of_getElem? (i := 1) rfl)) (fun _ h9 => h9) rfl dX6_passes_153 ?_
                          refine lv_bipush (v := 10) hx hb dX6_passes_156 (by decide) ?_
                          refine lv_iload hx hb dX6_passes_158 (lv_at hl 5 rfl) ?_
                          refine lv_iadd hx hb dX6_passes_160 ?_
                          refine z_top (y := nI (10 + k)) (nI_add 10 k) ?_
                          refine ziald 1 0 (10 + k) hx hb hK hP rfl rfl (by omega) (z_lt rfl) dX6_passes_161 ?_
                          refine lv_aload_n hx hb dX6_passes_162 rfl (lv_at hl 2 rfl) ?_
                          refine va_get (D := D) (ci := 10) (v := .ref v9) (C := RX6) (T := TX6) (N := 21) hx hb hts in_RX6 hown hK hP 0 rfl rfl 8 (by decide) (hts _ (List.mem_of_getElem? (i := 1) rfl)) (fun _ h9 => h9) rfl dX6_passes_163 ?_
                          refine lv_bipush (v := 34) hx hb dX6_passes_166 (by decide) ?_
                          refine lv_iload hx hb dX6_passes_168 (lv_at hl 5 rfl) ?_
                          refine lv_iadd hx hb dX6_passes_170 ?_
                          refine z_top (y := nI (34 + k)) (nI_add 34 k) ?_
                          refine ziald 1 0 (34 + k) hx hb hK hP rfl rfl (by omega) (z_lt rfl) dX6_passes_171 ?_
                          refine lv_iconst (v := 1) hx hb dX6_passes_172 (by decide) ?_
                          refine lv_iadd hx hb dX6_passes_173 ?_
                          refine zcV (As := [.int (nI k), .int ((zpsV (zst6 v rw cq 24) v k) (10 + k)), .int (((zpsV (zst6 v rw cq 24) v k) (34 + k)) + 1)]) (rest := []) [0, 1] 0 hg.1 ⟨hx, hb, hml, hown, hts⟩ (c_X6_puts hg l D cy x9 th ch era why det cau sv rj v9 b9 s9 k9 p9 t9 n9 tn he en ln iw dg (zpsV (zst6 v rw cq 24) v k) k ((zpsV (zst6 v rw cq 24) v k) (10 + k)) (((zpsV (zst6 v rw cq 24) v k) (34 + k)) + 1) (by first | assumption | omega)) (cwV 3 hts gX6_passes_X6_puts rfl rfl rfl (by decide +kernel) ⟨Nat.le_of_ble_eq_true rfl, Nat.le_of_ble_eq_true rfl⟩) hG hK hP hD hS hA rfl rfl (Eq.trans (b := [x9, v9]) rfl rfl) rfl rfl rfl hl.1 rfl (Nat.le_of_ble_eq_true rfl) dX6_passes_174 ⟨Nat.zero_le _, Nat.zero_le _⟩ (fun H locs hP hD hS => ?_)
                          have hP : va_P D vwCl [(x9, .inr (10, [.int th, .int (nI ch), .int era, .int why, .int det, .int cau, .int (zI sv), .int (zI rj), .ref v9, .ref b9, .ref s9, .ref k9, .ref p9, .ref t9, .ref n9, .int (nI tn), .int (nI he), .int (nI en), .int (nI ln), .int (zI iw), .int (zI dg)])), (v9, .inl (cy 0, 188, .inl (zpt (zpsV (zst6 v rw cq 24) v k) k ((zpsV (zst6 v rw cq 24) v k) (10 + k)) (((zpsV (zst6 v rw cq 24) v k) (34 + k)) + 1))))] H := hP
                          have hD : va_D A [(x9, .inr (10, [.int th, .int (nI ch), .int era, .int why, .int det, .int cau, .int (zI sv), .int (zI rj), .ref v9, .ref b9, .ref s9, .ref k9, .ref p9, .ref t9, .ref n9, .int (nI tn), .int (nI he), .int (nI en), .int (nI ln), .int (zI iw), .int (zI dg)])), (v9, .inl (cy 0, 188, .inl (zpt (zpsV (zst6 v rw cq 24) v k) k ((zpsV (zst6 v rw cq 24) v k) (10 + k)) (((zpsV (zst6 v rw cq 24) v k) (34 + k)) + 1))))] := hD
                          refine lv_iinc (v := nI (k + 1)) (lv' := [(4, .int (nI (k + 1))), (3, .int ((zpsD (zst6 v rw cq 24) v k) + 0)), (5, .int 0), (0, .ref x9), (1, .int (nI cq)), (2, .int (zst6 v rw cq 24))]) hx hb dX6_passes_177 hl (k := 5) rfl (by rw [show Int32.ofInt 1 = nI 1 from rfl, nI_add]) (by decide) rfl (fun ls hl => ?_)
                          refine lv_goto (tgt := 44) hx hb dX6_passes_180 (by decide) ?_
                          exact ih44 (k + 1) ((zpsD (zst6 v rw cq 24) v k) + 0) (zpt (zpsV (zst6 v rw cq 24) v k) k ((zpsV (zst6 v rw cq 24) v k) (10 + k)) (((zpsV (zst6 v rw cq 24) v k) (34 + k)) + 1)) (by omega) (by omega) (by first | (simp only [zpsV, zpsD, zpsX, Int32.add_zero, c_2, c_3, c_7, c_11, c_12, c_13, c_14, decide_true, decide_false, Bool.not_true, Bool.not_false, Bool.and_true, Bool.true_and, Bool.and_false, Bool.false_and, Bool.or_false, Bool.false_or, Bool.or_true, Bool.true_or, ↓reduceIte, Bool.false_eq_true, not_true_eq_false, not_false_eq_true, and_self]; done) | (simp [zpsV, zpsD, zpsX, Int32.add_zero, c_2, c_3, c_7, c_11, c_12, c_13, c_14]; done) | (simp_all [zpsV, zpsD, zpsX, Int32.add_zero]; done)) (by first | (simp only [zpsV, zpsD, zpsX, Int32.add_zero, c_2, c_3, c_7, c_11, c_12, c_13, c_14, decide_true, decide_false, Bool.not_true, Bool.not_false, Bool.and_true, Bool.true_and, Bool.and_false, Bool.false_and, Bool.or_false, Bool.false_or, Bool.or_true, Bool.true_or, ↓reduceIte, Bool.false_eq_true, not_true_eq_false, not_false_eq_true, and_self]; done) | (simp [zpsV, zpsD, zpsX, Int32.add_zero, c_2, c_3, c_7, c_11, c_12, c_13, c_14]; done) | (simp_all [zpsV, zpsD, zpsX, Int32.add_zero]; done)) H locs hP hD hS ls (lv_sub hl [3, 4, 5, 1, 0] rfl)
                        · exact absurd c_14 (by decide)
                      · exact absurd (hx0.symm.trans c_13) (by decide)
                    · exact absurd c_12 (by decide)
                  · refine lv_iconst (v := 1) hx hb dX6_passes_90 (by decide) ?_
                    refine lv_goto (tgt := 95) hx hb dX6_passes_91 (by decide) ?_
                    refine lv_istore (lv' := [(5, .int 1), (0, .ref x9), (1, .int (nI cq)), (2, .int (zst6 v rw cq 24)), (3, .int (zpsD (zst6 v rw cq 24) v k)), (4, .int (nI k))]) hx hb dX6_passes_95 hl (by decide) rfl (fun ls hl => ?_)
                    refine lv_iload_n hx hb dX6_passes_97 rfl (lv_at hl 4 rfl) ?_
                    refine lv_iload hx hb dX6_passes_98 (lv_at hl 0 rfl) ?_
                    refine lv_if_eq (tgt := 116) hx hb dX6_passes_100 (by decide) (fun c_15 => ?_) (fun c_15 => ?_)
                    · exact absurd c_15 (by decide)
                    · refine lv_aload_n hx hb dX6_passes_103 rfl (lv_at hl 1 rfl) ?_
                      refine va_get (D := D) (ci := 10) (v := .ref v9) (C := RX6) (T := TX6) (N := 21) hx hb hts in_RX6 hown hK hP 0 rfl rfl 8 (by decide) (hts _ (List.mem_of_getElem? (i := 1) rfl)) (fun _ h9 => h9) rfl dX6_passes_104 ?_
                      refine lv_bipush (v := 10) hx hb dX6_passes_107 (by decide) ?_
                      refine lv_iload hx hb dX6_passes_109 (lv_at hl 5 rfl) ?_
                      refine lv_iadd hx hb dX6_passes_111 ?_
                      refine z_top (y := nI (10 + k)) (nI_add 10 k) ?_
                      refine ziald 1 0 (10 + k) hx hb hK hP rfl rfl (by omega) (z_lt rfl) dX6_passes_112 ?_
                      refine lv_goto (tgt := 117) hx hb dX6_passes_113 (by decide) ?_
                      refine lv_iadd hx hb dX6_passes_117 ?_
                      refine lv_istore_n (lv' := [(3, .int ((zpsD (zst6 v rw cq 24) v k) + ((zpsV (zst6 v rw cq 24) v k) (10 + k)))), (5, .int 1), (0, .ref x9), (1, .int (nI cq)), (2, .int (zst6 v rw cq 24)), (4, .int (nI k))]) hx hb dX6_passes_118 rfl hl (by decide) rfl (fun ls hl => ?_)
                      refine lv_iload_n hx hb dX6_passes_119 rfl (lv_at hl 4 rfl) ?_
                      refine lv_iload hx hb dX6_passes_120 (lv_at hl 5 rfl) ?_
                      refine lv_ishr hx hb dX6_passes_122 ?_
                      refine lv_iconst (v := 1) hx hb dX6_passes_123 (by decide) ?_
                      refine lv_iand hx hb dX6_passes_124 ?_
                      refine lv_iconst (v := 1) hx hb dX6_passes_125 (by decide) ?_
                      refine lv_icmp_ne (tgt := 140) hx hb dX6_passes_126 (by decide) (fun c_16 => ?_) (fun c_16 => ?_)
                      · refine lv_aload_n hx hb dX6_passes_140 rfl (lv_at hl 2 rfl) ?_
                        refine lv_iload hx hb dX6_passes_141 (lv_at hl 5 rfl) ?_
                        refine lv_iload hx hb dX6_passes_143 (lv_at hl 1 rfl) ?_
                        refine lv_if_eq (tgt := 152) hx hb dX6_passes_145 (by decide) (fun c_17 => ?_) (fun c_17 => ?_)
                        · exact absurd c_17 (by decide)
                        · refine lv_iconst (v := 0) hx hb dX6_passes_148 (by decide) ?_
                          refine lv_goto (tgt := 162) hx hb dX6_passes_149 (by decide) ?_
                          refine lv_aload_n hx hb dX6_passes_162 rfl (lv_at hl 2 rfl) ?_
                          refine va_get (D := D) (ci := 10) (v := .ref v9) (C := RX6) (T := TX6) (N := 21) hx hb hts in_RX6 hown hK hP 0 rfl rfl 8 (by decide) (hts _ (List.mem_of_getElem? (i := 1) rfl)) (fun _ h9 => h9) rfl dX6_passes_163 ?_
                          refine lv_bipush (v := 34) hx hb dX6_passes_166 (by decide) ?_
                          refine lv_iload hx hb dX6_passes_168 (lv_at hl 5 rfl) ?_
                          refine lv_iadd hx hb dX6_passes_170 ?_
                          refine z_top (y := nI (34 + k)) (nI_add 34 k) ?_
                          refine ziald 1 0 (34 + k) hx hb hK hP rfl rfl (by omega) (z_lt rfl) dX6_passes_171 ?_
                          refine lv_iconst (v := 1) hx hb dX6_passes_172 (by decide) ?_
                          refine lv_iadd hx hb dX6_passes_173 ?_
                          refine zcV (As := [.int (nI k), .int 0, .int (((zpsV (zst6 v rw cq 24) v k) (34 + k)) + 1)]) (rest := []) [0, 1] 0 hg.1 ⟨hx, hb, hml, hown, hts⟩ (c_X6_puts hg l D cy x9 th ch era why det cau sv rj v9 b9 s9 k9 p9 t9 n9 tn he en ln iw dg (zpsV (zst6 v rw cq 24) v k) k 0 (((zpsV (zst6 v rw cq 24) v k) (34 + k)) + 1) (by first | assumption | omega)) (cwV 3 hts gX6_passes_X6_puts rfl rfl rfl (by decide +kernel) ⟨Nat.le_of_ble_eq_true rfl, Nat.le_of_ble_eq_true rfl⟩) hG hK hP hD hS hA rfl rfl (Eq.trans (b := [x9, v9]) rfl rfl) rfl rfl rfl hl.1 rfl (Nat.le_of_ble_eq_true rfl) dX6_passes_174 ⟨Nat.zero_le _, Nat.zero_le _⟩ (fun H locs hP hD hS => ?_)
                          have hP : va_P D vwCl [(x9, .inr (10, [.int th, .int (nI ch), .int era, .int why, .int det, .int cau, .int (zI sv), .int (zI rj), .ref v9, .ref b9, .ref s9, .ref k9, .ref p9, .ref t9, .ref n9, .int (nI tn), .int (nI he), .int (nI en), .int (nI ln), .int (zI iw), .int (zI dg)])), (v9, .inl (cy 0, 188, .inl (zpt (zpsV (zst6 v rw cq 24) v k) k 0 (((zpsV (zst6 v rw cq 24) v k) (34 + k)) + 1))))] H := hP
                          have hD : va_D A [(x9, .inr (10, [.int th, .int (nI ch), .int era, .int why, .int det, .int cau, .int (zI sv), .int (zI rj), .ref v9, .ref b9, .ref s9, .ref k9, .ref p9, .ref t9, .ref n9, .int (nI tn), .int (nI he), .int (nI en), .int (nI ln), .int (zI iw), .int (zI dg)])), (v9, .inl (cy 0, 188, .inl (zpt (zpsV (zst6 v rw cq 24) v k) k 0 (((zpsV (zst6 v rw cq 24) v k) (34 + k)) + 1))))] := hD
                          refine lv_iinc (v := nI (k + 1)) (lv' := [(4, .int (nI (k + 1))), (3, .int ((zpsD (zst6 v rw cq 24) v k) + ((zpsV (zst6 v rw cq 24) v k) (10 + k)))), (5, .int 1), (0, .ref x9), (1, .int (nI cq)), (2, .int (zst6 v rw cq 24))]) hx hb dX6_passes_177 hl (k := 5) rfl (by rw [show Int32.ofInt 1 = nI 1 from rfl, nI_add]) (by decide) rfl (fun ls hl => ?_)
                          refine lv_goto (tgt := 44) hx hb dX6_passes_180 (by decide) ?_
                          exact ih44 (k + 1) ((zpsD (zst6 v rw cq 24) v k) + ((zpsV (zst6 v rw cq 24) v k) (10 + k))) (zpt (zpsV (zst6 v rw cq 24) v k) k 0 (((zpsV (zst6 v rw cq 24) v k) (34 + k)) + 1)) (by omega) (by omega) (by first | (simp only [zpsV, zpsD, zpsX, Int32.add_zero, c_2, c_3, c_7, c_11, c_15, c_16, c_17, decide_true, decide_false, Bool.not_true, Bool.not_false, Bool.and_true, Bool.true_and, Bool.and_false, Bool.false_and, Bool.or_false, Bool.false_or, Bool.or_true, Bool.true_or, ↓reduceIte, Bool.false_eq_true, not_true_eq_false, not_false_eq_true, and_self]; done) | (simp [zpsV, zpsD, zpsX, Int32.add_zero, c_2, c_3, c_7, c_11, c_15, c_16, c_17]; done) | (simp_all [zpsV, zpsD, zpsX, Int32.add_zero]; done)) (by first | (simp only [zpsV, zpsD, zpsX, Int32.add_zero, c_2, c_3, c_7, c_11, c_15, c_16, c_17, decide_true, decide_false, Bool.not_true, Bool.not_false, Bool.and_true, Bool.true_and, Bool.and_false, Bool.false_and, Bool.or_false, Bool.false_or, Bool.or_true, Bool.true_or, ↓reduceIte, Bool.false_eq_true, not_true_eq_false, not_false_eq_true, and_self]; done) | (simp [zpsV, zpsD, zpsX, Int32.add_zero, c_2, c_3, c_7, c_11, c_15, c_16, c_17]; done) | (simp_all [zpsV, zpsD, zpsX, Int32.add_zero]; done)) H locs hP hD hS ls (lv_sub hl [3, 4, 5, 1, 0] rfl)
                      · exact absurd (hx0.symm.trans c_16) (by decide)
        exact L44 (24 - 0 + 1) 0 0 v (by omega) (Nat.lt_succ_self _) (by rfl) (by rfl) H locs hP hD hS ls (lv_sub hl [1, 2, 3, 4, 0] rfl)
      · have hk2 : k < 24 := Nat.lt_of_not_le (fun z => c_1 (nI_le z (by omega)))
        refine lv_iload_n hx hb dX6_passes_14 rfl (lv_at hl 2 rfl) ?_
        refine lv_aload_n hx hb dX6_passes_15 rfl (lv_at hl 0 rfl) ?_
        refine lv_iload hx hb dX6_passes_16 (lv_at hl 4 rfl) ?_
        refine lv_iload_n hx hb dX6_passes_18 rfl (lv_at hl 1 rfl) ?_
        refine zcV (As := [.int (nI k), .int (nI cq)]) (rest := [.int (zst6 v rw cq k)]) [0, 1] 0 hg.1 ⟨hx, hb, hml, hown, hts⟩ (c_X6_knits hg l D cy x9 th ch era why det cau sv rj v9 b9 s9 k9 p9 t9 n9 tn he en ln iw dg v k cq rw (by first | assumption | omega) (by first | assumption | omega) (by first | assumption | omega) (by first | assumption | omega)) (cwV 2 hts gX6_passes_X6_knits rfl rfl rfl (by decide +kernel) ⟨Nat.le_of_ble_eq_true rfl, Nat.le_of_ble_eq_true rfl⟩) hG hK hP hD hS hA rfl rfl rfl rfl rfl rfl hl.1 rfl (Nat.le_of_ble_eq_true rfl) dX6_passes_19 ⟨Nat.zero_le _, Nat.zero_le _⟩ (fun H locs hP hD hS => ?_)
        have hP : va_P D vwCl [(x9, .inr (10, [.int th, .int (nI ch), .int era, .int why, .int det, .int cau, .int (zI sv), .int (zI rj), .ref v9, .ref b9, .ref s9, .ref k9, .ref p9, .ref t9, .ref n9, .int (nI tn), .int (nI he), .int (nI en), .int (nI ln), .int (zI iw), .int (zI dg)])), (v9, .inl (cy 0, 188, .inl v))] H := hP
        have hD : va_D A [(x9, .inr (10, [.int th, .int (nI ch), .int era, .int why, .int det, .int cau, .int (zI sv), .int (zI rj), .ref v9, .ref b9, .ref s9, .ref k9, .ref p9, .ref t9, .ref n9, .int (nI tn), .int (nI he), .int (nI en), .int (nI ln), .int (zI iw), .int (zI dg)])), (v9, .inl (cy 0, 188, .inl v))] := hD
        refine lv_if_eq (tgt := 32) hx hb dX6_passes_22 (by decide) (fun c_18 => ?_) (fun c_18 => ?_)
        · replace c_18 := zI0 c_18
          refine lv_iconst (v := 0) hx hb dX6_passes_32 (by decide) ?_
          refine lv_ior hx hb dX6_passes_33 ?_
          refine lv_istore_n (lv' := [(2, .int ((zst6 v rw cq k) ||| 0)), (0, .ref x9), (1, .int (nI cq)), (3, .int 0), (4, .int (nI k))]) hx hb dX6_passes_34 rfl hl (by decide) rfl (fun ls hl => ?_)
          refine lv_iinc (v := nI (k + 1)) (lv' := [(4, .int (nI (k + 1))), (2, .int ((zst6 v rw cq k) ||| 0)), (0, .ref x9), (1, .int (nI cq)), (3, .int 0)]) hx hb dX6_passes_35 hl (k := 4) rfl (by rw [show Int32.ofInt 1 = nI 1 from rfl, nI_add]) (by decide) rfl (fun ls hl => ?_)
          refine lv_goto (tgt := 7) hx hb dX6_passes_38 (by decide) ?_
          exact ih7 (k + 1) ((zst6 v rw cq k) ||| 0) (by omega) (by omega) (by first | (simp only [zst6, c_1, c_18, decide_true, decide_false, Bool.not_true, Bool.not_false, Bool.and_true, Bool.true_and, Bool.and_false, Bool.false_and, Bool.or_false, Bool.false_or, Bool.or_true, Bool.true_or, ↓reduceIte, Bool.false_eq_true, not_true_eq_false, not_false_eq_true, and_self]; done) | (simp [zst6, c_1, c_18]; done) | (simp_all [zst6]; done)) H locs hP hD hS ls (lv_sub hl [2, 3, 1, 4, 0] rfl)
        · replace c_18 := zI1 c_18
          refine lv_iconst (v := 1) hx hb dX6_passes_25 (by decide) ?_
          refine lv_iload hx hb dX6_passes_26 (lv_at hl 4 rfl) ?_
          refine lv_ishl hx hb dX6_passes_28 ?_
          refine lv_goto (tgt := 33) hx hb dX6_passes_29 (by decide) ?_
          refine lv_ior hx hb dX6_passes_33 ?_
          refine lv_istore_n (lv' := [(2, .int ((zst6 v rw cq k) ||| (1 <<< ((nI k) &&& 31)))), (0, .ref x9), (1, .int (nI cq)), (3, .int 0), (4, .int (nI k))]) hx hb dX6_passes_34 rfl hl (by decide) rfl (fun ls hl => ?_)
          refine lv_iinc (v := nI (k + 1)) (lv' := [(4, .int (nI (k + 1))), (2, .int ((zst6 v rw cq k) ||| (1 <<< ((nI k) &&& 31)))), (0, .ref x9), (1, .int (nI cq)), (3, .int 0)]) hx hb dX6_passes_35 hl (k := 4) rfl (by rw [show Int32.ofInt 1 = nI 1 from rfl, nI_add]) (by decide) rfl (fun ls hl => ?_)
          refine lv_goto (tgt := 7) hx hb dX6_passes_38 (by decide) ?_
          exact ih7 (k + 1) ((zst6 v rw cq k) ||| (1 <<< ((nI k) &&& 31))) (by omega) (by omega) (by first | (simp only [zst6, c_1, c_18, decide_true, decide_false, Bool.not_true, Bool.not_false, Bool.and_true, Bool.true_and, Bool.and_false, Bool.false_and, Bool.or_false, Bool.false_or, Bool.or_true, Bool.true_or, ↓reduceIte, Bool.false_eq_true, not_true_eq_false, not_false_eq_true, and_self]; done) | (simp [zst6, c_1, c_18]; done) | (simp_all [zst6]; done)) H locs hP hD hS ls (lv_sub hl [2, 3, 1, 4, 0] rfl)
  exact L7 (24 - 0 + 1) 0 0 (by omega) (Nat.lt_succ_self _) (by rfl) s.heap [] hP hD hS ls (lv_sub hl [3, 4, 2, 1, 0] rfl)

abbrev rmX6_courses_rej : Room := { frames := 3, cells := 0, slots := 0, locals := 67 }
set_option maxHeartbeats 4000000 in
set_option maxRecDepth 100000 in
theorem c_X6_courses_rej {G : zG} (hg : zGN G) (l : Launch) (D : va_G) (cy : Nat → ClassId) (x9 : Nat) (th : Int32) (ch : Nat) (era : Int32) (why : Int32) (det : Int32) (cau : Int32) (sv : Bool) (rj : Bool) (v9 : Nat) (b9 : Nat) (s9 : Nat) (k9 : Nat) (p9 : Nat) (t9 : Nat) (n9 : Nat) (tn : Nat) (he : Nat) (en : Nat) (ln : Nat) (iw : Bool) (dg : Bool) (v : Nat → Int32) (ac : Nat) (rw : Nat) (cn : Nat) (hv2 : v 2 = nI ac) (hv4 : v 4 = nI rw) (hv5 : v 5 = nI cn) (hrw : rw ≤ 6) (hac : ac < 4) (hcn : cn ≤ 30) (hr0 : ¬ zrc6 v ac rw cn = 0) : zM G D vwCl (zT cy) l yX6_courses wsX6_courses rmX6_courses_rej [.ref x9] [(x9, .inr (10, [.int th, .int (nI ch), .int era, .int why, .int det, .int cau, .int (zI sv), .int (zI rj), .ref v9, .ref b9, .ref s9, .ref k9, .ref p9, .ref t9, .ref n9, .int (nI tn), .int (nI he), .int (nI en), .int (nI ln), .int (zI iw), .int (zI dg)])), (v9, .inl (cy 0, 188, .inl v))] (some (.int 0)) [(x9, .inr (10, [.int 2, .int (nI ch), .int era, .int (zrc6 v ac rw cn), .int (zdc6 v rw cn), .int 0, .int (zI sv), .int (zI true), .ref v9, .ref b9, .ref s9, .ref k9, .ref p9, .ref t9, .ref n9, .int (nI tn), .int (nI he), .int (nI en), .int (nI ln), .int (zI iw), .int (zI dg)])), (v9, .inl (cy 0, 188, .inl v))] := by
  refine zM_of (cc := cX6_courses) (maxL := 5) (ret := (some .int)) (by decide) rfl (Nat.le_of_ble_eq_true rfl) ?_
  intro p e s m below meth c A Q hend hx hb hml hr hts hown hlk hG hK hP hD hA hS ls hl
  have hown : s.vm.findClass RX6 = some m.cls := hown
  have in_RX6 : ∀ w ∈ u_ws RX6 TX6 21, w ∈ wsX6_courses := by decide +kernel
  have hl : lv_has ls 5 [(0, .ref x9)] := hl
  refine lv_aload_n hx hb dX6_courses_0 rfl (lv_at hl 0 rfl) ?_
  refine va_get (D := D) (ci := 10) (v := .ref v9) (C := RX6) (T := TX6) (N := 21) hx hb hts in_RX6 hown hK hP 0 rfl rfl 8 (by decide) (hts _ (List.mem_of_getElem? (i := 1) rfl)) (fun _ h9 => h9) rfl dX6_courses_1 ?_
  refine lv_iconst (v := 5) hx hb dX6_courses_4 (by decide) ?_
  refine ziald 1 0 5 hx hb hK hP rfl rfl (by omega) (z_lt rfl) dX6_courses_5 ?_
  refine z_top (y := nI cn) (hv5) ?_
  refine lv_istore_n (lv' := [(1, .int (nI cn)), (0, .ref x9)]) hx hb dX6_courses_6 rfl hl (by decide) rfl (fun ls hl => ?_)
  refine lv_aload_n hx hb dX6_courses_7 rfl (lv_at hl 1 rfl) ?_
  refine lv_iload_n hx hb dX6_courses_8 rfl (lv_at hl 0 rfl) ?_
  refine zcV (As := [.int (nI cn)]) (rest := []) [0, 1] 0 hg.1 ⟨hx, hb, hml, hown, hts⟩ (c_X6_wide hg l D cy x9 th ch era why det cau sv rj v9 b9 s9 k9 p9 t9 n9 tn he en ln iw dg v cn rw (by first | assumption | omega) (by first | assumption | omega) (by first | assumption | omega)) (cwV 1 hts gX6_courses_X6_wide rfl rfl rfl (by decide +kernel) ⟨Nat.le_of_ble_eq_true rfl, Nat.le_of_ble_eq_true rfl⟩) hG hK hP hD hS hA rfl rfl rfl rfl rfl rfl hl.1 rfl (Nat.le_of_ble_eq_true rfl) dX6_courses_9 ⟨Nat.zero_le _, Nat.zero_le _⟩ (fun H locs hP hD hS => ?_)
  have hP : va_P D vwCl [(x9, .inr (10, [.int th, .int (nI ch), .int era, .int why, .int det, .int cau, .int (zI sv), .int (zI rj), .ref v9, .ref b9, .ref s9, .ref k9, .ref p9, .ref t9, .ref n9, .int (nI tn), .int (nI he), .int (nI en), .int (nI ln), .int (zI iw), .int (zI dg)])), (v9, .inl (cy 0, 188, .inl v))] H := hP
  have hD : va_D A [(x9, .inr (10, [.int th, .int (nI ch), .int era, .int why, .int det, .int cau, .int (zI sv), .int (zI rj), .ref v9, .ref b9, .ref s9, .ref k9, .ref p9, .ref t9, .ref n9, .int (nI tn), .int (nI he), .int (nI en), .int (nI ln), .int (zI iw), .int (zI dg)])), (v9, .inl (cy 0, 188, .inl v))] := hD
  refine lv_istore_n (lv' := [(2, .int (zwd6 v rw cn 24)), (1, .int (nI cn)), (0, .ref x9)]) hx hb dX6_courses_12 rfl hl (by decide) rfl (fun ls hl => ?_)
  refine lv_iload_n hx hb dX6_courses_13 rfl (lv_at hl 0 rfl) ?_
  refine lv_aload_n hx hb dX6_courses_14 rfl (lv_at hl 2 rfl) ?_
  refine va_get (D := D) (ci := 10) (v := .ref v9) (C := RX6) (T := TX6) (N := 21) hx hb hts in_RX6 hown hK hP 0 rfl rfl 8 (by decide) (hts _ (List.mem_of_getElem? (i := 1) rfl)) (fun _ h9 => h9) rfl dX6_courses_15 ?_
  refine lv_iconst (v := 3) hx hb dX6_courses_18 (by decide) ?_
  refine ziald 1 0 3 hx hb hK hP rfl rfl (by omega) (z_lt rfl) dX6_courses_19 ?_
  refine lv_imul hx hb dX6_courses_20 ?_
  refine lv_istore_n (lv' := [(3, .int ((zwd6 v rw cn 24) * (v 3))), (2, .int (zwd6 v rw cn 24)), (1, .int (nI cn)), (0, .ref x9)]) hx hb dX6_courses_21 rfl hl (by decide) rfl (fun ls hl => ?_)
  refine lv_bipush (v := 68) hx hb dX6_courses_22 (by decide) ?_
  refine lv_iconst (v := 4) hx hb dX6_courses_24 (by decide) ?_
  refine lv_iload_n hx hb dX6_courses_25 rfl (lv_at hl 2 rfl) ?_
  refine lv_imul hx hb dX6_courses_26 ?_
  refine z_top (y := nI (4 * cn)) (pk_mul 4 cn) ?_
  refine lv_iadd hx hb dX6_courses_27 ?_
  refine z_top (y := nI (68 + (4 * cn))) (nI_add 68 (4 * cn)) ?_
  refine lv_istore (lv' := [(4, .int (nI (68 + (4 * cn)))), (3, .int ((zwd6 v rw cn 24) * (v 3))), (2, .int (zwd6 v rw cn 24)), (1, .int (nI cn)), (0, .ref x9)]) hx hb dX6_courses_28 hl (by decide) rfl (fun ls hl => ?_)
  refine lv_iload_n hx hb dX6_courses_30 rfl (lv_at hl 3 rfl) ?_
  refine lv_bipush (v := 30) hx hb dX6_courses_31 (by decide) ?_
  refine lv_icmp_ne (tgt := 46) hx hb dX6_courses_33 (by decide) (fun c_1 => ?_) (fun c_1 => ?_)
  · have hc3 : ¬ cn = 30 := fun z => c_1 (by rw [z]; rfl)
    refine lv_iload_n hx hb dX6_courses_46 rfl (lv_at hl 2 rfl) ?_
    refine lv_if_ne (tgt := 59) hx hb dX6_courses_47 (by decide) (fun c_2 => ?_) (fun c_2 => ?_)
    · refine lv_aload_n hx hb dX6_courses_59 rfl (lv_at hl 4 rfl) ?_
      refine va_get (D := D) (ci := 10) (v := .ref v9) (C := RX6) (T := TX6) (N := 21) hx hb hts in_RX6 hown hK hP 0 rfl rfl 8 (by decide) (hts _ (List.mem_of_getElem? (i := 1) rfl)) (fun _ h9 => h9) rfl dX6_courses_60 ?_
      refine lv_bipush (v := 58) hx hb dX6_courses_63 (by decide) ?_
      refine lv_aload_n hx hb dX6_courses_65 rfl (lv_at hl 4 rfl) ?_
      refine va_get (D := D) (ci := 10) (v := .ref v9) (C := RX6) (T := TX6) (N := 21) hx hb hts in_RX6 hown hK hP 0 rfl rfl 8 (by decide) (hts _ (List.mem_of_getElem? (i := 1) rfl)) (fun _ h9 => h9) rfl dX6_courses_66 ?_
      refine lv_iconst (v := 2) hx hb dX6_courses_69 (by decide) ?_
      refine ziald 1 0 2 hx hb hK hP rfl rfl (by omega) (z_lt rfl) dX6_courses_70 ?_
      refine z_top (y := nI ac) (hv2) ?_
      refine lv_iadd hx hb dX6_courses_71 ?_
      refine z_top (y := nI (58 + ac)) (nI_add 58 ac) ?_
      refine ziald 1 0 (58 + ac) hx hb hK hP rfl rfl (by omega) (z_lt rfl) dX6_courses_72 ?_
      refine lv_iload_n hx hb dX6_courses_73 rfl (lv_at hl 1 rfl) ?_
      refine lv_icmp_ge (tgt := 86) hx hb dX6_courses_74 (by decide) (fun c_3 => ?_) (fun c_3 => ?_)
      · exact absurd (by simp [zrc6, hc3, c_1, c_2, c_3]) hr0
      · refine lv_aload_n hx hb dX6_courses_77 rfl (lv_at hl 4 rfl) ?_
        refine lv_iconst (v := 2) hx hb dX6_courses_78 (by decide) ?_
        refine lv_bipush (v := 10) hx hb dX6_courses_79 (by decide) ?_
        refine lv_iload_n hx hb dX6_courses_81 rfl (lv_at hl 1 rfl) ?_
        refine zcV (As := [.int 2, .int 10, .int ((zwd6 v rw cn 24) * (v 3))]) (rest := []) [0] 0 hg.1 ⟨hx, hb, hml, hown, hts⟩ (c_X6_rejects hg l D cy x9 th ch era why det cau sv rj v9 b9 s9 k9 p9 t9 n9 tn he en ln iw dg 2 10 ((zwd6 v rw cn 24) * (v 3))) (cwV 3 hts gX6_courses_X6_rejects rfl rfl rfl (by decide +kernel) ⟨Nat.le_of_ble_eq_true rfl, Nat.le_of_ble_eq_true rfl⟩) hG hK hP hD hS hA rfl rfl (Eq.trans (b := [x9]) rfl rfl) rfl rfl rfl hl.1 rfl (Nat.le_of_ble_eq_true rfl) dX6_courses_82 ⟨Nat.zero_le _, Nat.zero_le _⟩ (fun H locs hP hD hS => ?_)
        have hP : va_P D vwCl [(x9, .inr (10, [.int 2, .int (nI ch), .int era, .int 10, .int ((zwd6 v rw cn 24) * (v 3)), .int 0, .int (zI sv), .int (zI true), .ref v9, .ref b9, .ref s9, .ref k9, .ref p9, .ref t9, .ref n9, .int (nI tn), .int (nI he), .int (nI en), .int (nI ln), .int (zI iw), .int (zI dg)])), (v9, .inl (cy 0, 188, .inl v))] H := hP
        have hD : va_D A [(x9, .inr (10, [.int 2, .int (nI ch), .int era, .int 10, .int ((zwd6 v rw cn 24) * (v 3)), .int 0, .int (zI sv), .int (zI true), .ref v9, .ref b9, .ref s9, .ref k9, .ref p9, .ref t9, .ref n9, .int (nI tn), .int (nI he), .int (nI en), .int (nI ln), .int (zI iw), .int (zI dg)])), (v9, .inl (cy 0, 188, .inl v))] := hD
        exact ziret hend hx hb hr hlk hK hP hD hS dX6_courses_85 rfl (by simp [zrc6, zdc6, hc3, c_1, c_2, c_3])
    · refine lv_aload_n hx hb dX6_courses_50 rfl (lv_at hl 4 rfl) ?_
      refine lv_iconst (v := 2) hx hb dX6_courses_51 (by decide) ?_
      refine lv_bipush (v := 14) hx hb dX6_courses_52 (by decide) ?_
      refine lv_iload_n hx hb dX6_courses_54 rfl (lv_at hl 3 rfl) ?_
      refine zcV (As := [.int 2, .int 14, .int (nI cn)]) (rest := []) [0] 0 hg.1 ⟨hx, hb, hml, hown, hts⟩ (c_X6_rejects hg l D cy x9 th ch era why det cau sv rj v9 b9 s9 k9 p9 t9 n9 tn he en ln iw dg 2 14 (nI cn)) (cwV 3 hts gX6_courses_X6_rejects rfl rfl rfl (by decide +kernel) ⟨Nat.le_of_ble_eq_true rfl, Nat.le_of_ble_eq_true rfl⟩) hG hK hP hD hS hA rfl rfl (Eq.trans (b := [x9]) rfl rfl) rfl rfl rfl hl.1 rfl (Nat.le_of_ble_eq_true rfl) dX6_courses_55 ⟨Nat.zero_le _, Nat.zero_le _⟩ (fun H locs hP hD hS => ?_)
      have hP : va_P D vwCl [(x9, .inr (10, [.int 2, .int (nI ch), .int era, .int 14, .int (nI cn), .int 0, .int (zI sv), .int (zI true), .ref v9, .ref b9, .ref s9, .ref k9, .ref p9, .ref t9, .ref n9, .int (nI tn), .int (nI he), .int (nI en), .int (nI ln), .int (zI iw), .int (zI dg)])), (v9, .inl (cy 0, 188, .inl v))] H := hP
      have hD : va_D A [(x9, .inr (10, [.int 2, .int (nI ch), .int era, .int 14, .int (nI cn), .int 0, .int (zI sv), .int (zI true), .ref v9, .ref b9, .ref s9, .ref k9, .ref p9, .ref t9, .ref n9, .int (nI tn), .int (nI he), .int (nI en), .int (nI ln), .int (zI iw), .int (zI dg)])), (v9, .inl (cy 0, 188, .inl v))] := hD
      exact ziret hend hx hb hr hlk hK hP hD hS dX6_courses_58 rfl (by simp [zrc6, zdc6, hc3, c_1, c_2])
  · have hc3 : cn = 30 := (nI_eq (a := cn) (b := 30) (by omega) (by omega)).mp c_1
    refine lv_aload_n hx hb dX6_courses_36 rfl (lv_at hl 4 rfl) ?_
    refine lv_iconst (v := 2) hx hb dX6_courses_37 (by decide) ?_
    refine lv_bipush (v := 13) hx hb dX6_courses_38 (by decide) ?_
    refine lv_bipush (v := 30) hx hb dX6_courses_40 (by decide) ?_
    refine zcV (As := [.int 2, .int 13, .int 30]) (rest := []) [0] 0 hg.1 ⟨hx, hb, hml, hown, hts⟩ (c_X6_rejects hg l D cy x9 th ch era why det cau sv rj v9 b9 s9 k9 p9 t9 n9 tn he en ln iw dg 2 13 30) (cwV 3 hts gX6_courses_X6_rejects rfl rfl rfl (by decide +kernel) ⟨Nat.le_of_ble_eq_true rfl, Nat.le_of_ble_eq_true rfl⟩) hG hK hP hD hS hA rfl rfl (Eq.trans (b := [x9]) rfl rfl) rfl rfl rfl hl.1 rfl (Nat.le_of_ble_eq_true rfl) dX6_courses_42 ⟨Nat.zero_le _, Nat.zero_le _⟩ (fun H locs hP hD hS => ?_)
    have hP : va_P D vwCl [(x9, .inr (10, [.int 2, .int (nI ch), .int era, .int 13, .int 30, .int 0, .int (zI sv), .int (zI true), .ref v9, .ref b9, .ref s9, .ref k9, .ref p9, .ref t9, .ref n9, .int (nI tn), .int (nI he), .int (nI en), .int (nI ln), .int (zI iw), .int (zI dg)])), (v9, .inl (cy 0, 188, .inl v))] H := hP
    have hD : va_D A [(x9, .inr (10, [.int 2, .int (nI ch), .int era, .int 13, .int 30, .int 0, .int (zI sv), .int (zI true), .ref v9, .ref b9, .ref s9, .ref k9, .ref p9, .ref t9, .ref n9, .int (nI tn), .int (nI he), .int (nI en), .int (nI ln), .int (zI iw), .int (zI dg)])), (v9, .inl (cy 0, 188, .inl v))] := hD
    exact ziret hend hx hb hr hlk hK hP hD hS dX6_courses_45 rfl (by simp [zrc6, zdc6, hc3, c_1])
