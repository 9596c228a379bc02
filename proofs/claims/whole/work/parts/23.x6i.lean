/-- courses that come without any limit -/
def zco6 (v : Nat → Int32) (rw cn : Nat) : Nat → (Nat → Int32)
  | 0 => v
  | k + 1 => zpsV (zst6 (zco6 v rw cn k) rw (cn + k) 24) (zco6 v rw cn k) 24
theorem zco6_n {v : Nat → Int32} {rw cn j : Nat} (h : j < 10 ∨ 57 < j) : ∀ {k : Nat}, zco6 v rw cn k j = v j := by
  intro k
  induction k with
  | zero => rfl
  | succ k ih => simp only [zco6]; rw [zpsV_n h (Nat.le_refl _)]; exact ih
def zcoS (v : Nat → Int32) (rw cn : Nat) : Nat → Int32
  | 0 => 0
  | k + 1 => zcoS v rw cn k + zwd6 (zco6 v rw cn k) rw (cn + k) 24
def zcoD (v : Nat → Int32) (rw cn : Nat) : Nat → Int32
  | 0 => 0
  | k + 1 => zcoD v rw cn k + zpsD (zst6 (zco6 v rw cn k) rw (cn + k) 24) (zco6 v rw cn k) 24
/-- needles in work without loops -/
def zne6 (v : Nat → Int32) : Nat → Int32
  | 0 => 0
  | k + 1 => zne6 v k + (if (zb (v 0) (nI k) && decide (v (10 + k) = 0)) = true then 1 else 0)
/-- the sign of a needle -/
def zsn6 (v : Nat → Int32) (k : Nat) : Int32 := if zb (v 0) (nI k) = true then (if zb (v 1) (nI k) = true then (if v (10 + k) = 0 then 104 else 97 + v (10 + k) - 1) else (if v (10 + k) = 0 then 111 else 48 + v (10 + k))) else 46
def zwb6 (v lx : Nat → Int32) : Nat → (Nat → Int32)
  | 0 => lx
  | k + 1 => upd (zwb6 v lx k) k (zsn6 v k)
theorem nI_npos {d : Nat} (h : ¬ 0 < d) : nI d ≤ 0 := by
  obtain rfl : d = 0 := by omega
  decide
theorem nI_npos2 {d : Nat} (h : 0 < d) (h2 : d < 2 ^ 31) : ¬ nI d ≤ 0 := fun z => absurd ((nI_leI (a := d) (b := 0) h2 (by omega)).mp z) (by omega)
abbrev rmX6_comes_ok1 : Room := { frames := 3, cells := 0, slots := 0, locals := 69 }
set_option maxHeartbeats 4000000 in
set_option maxRecDepth 100000 in
theorem c_X6_comes_ok1 {G : zG} (hg : zGN G) (l : Launch) (D : va_G) (cy : Nat → ClassId) (x9 : Nat) (th : Int32) (ch : Nat) (era : Int32) (why : Int32) (det : Int32) (cau : Int32) (sv : Bool) (rj : Bool) (v9 : Nat) (b9 : Nat) (s9 : Nat) (k9 : Nat) (p9 : Nat) (t9 : Nat) (n9 : Nat) (tn : Nat) (he : Nat) (en : Nat) (ln : Nat) (iw : Bool) (dg : Bool) (v : Nat → Int32) (kf : Nat → Int32) (rw : Nat) (cn : Nat) (qn : Nat) (hv4 : v 4 = nI rw) (hrw : rw ≤ 6) (hv5 : v 5 = nI cn) (hcn : cn ≤ 30) (hq1 : 0 < qn) (hq2 : qn ≤ 10) : zM G D vwCl (zT cy) l yX6_comes wsX6_comes rmX6_comes_ok1 [.ref x9, .int (nI qn), .int 1] [(x9, .inr (10, [.int th, .int (nI ch), .int era, .int why, .int det, .int cau, .int (zI sv), .int (zI rj), .ref v9, .ref b9, .ref s9, .ref k9, .ref p9, .ref t9, .ref n9, .int (nI tn), .int (nI he), .int (nI en), .int (nI ln), .int (zI iw), .int (zI dg)])), (v9, .inl (cy 0, 188, .inl v)), (k9, .inl (cy 0, 188, .inl kf))] (some (.int (zcoS v rw cn qn))) [(x9, .inr (10, [.int 0, .int (nI ch), .int era, .int why, .int det, .int cau, .int (zI sv), .int (zI rj), .ref v9, .ref b9, .ref s9, .ref k9, .ref p9, .ref t9, .ref n9, .int (nI tn), .int (nI he), .int (nI en), .int (nI ln), .int (zI iw), .int (zI dg)])), (v9, .inl (cy 0, 188, .inl v)), (k9, .inl (cy 0, 188, .inl v))] := by
  refine zM_of (cc := cX6_comes) (maxL := 6) (ret := (some .int)) (by decide) rfl (Nat.le_of_ble_eq_true rfl) ?_
  intro p e s m below meth c A Q hend hx hb hml hr hts hown hlk hG hK hP hD hA hS ls hl
  have hown : s.vm.findClass RX6 = some m.cls := hown
  have in_RX6 : ∀ w ∈ u_ws RX6 TX6 21, w ∈ wsX6_comes := by decide +kernel
  have hl : lv_has ls 6 [(0, .ref x9), (1, .int (nI qn)), (2, .int 1)] := hl
  refine lv_aload_n hx hb dX6_comes_0 rfl (lv_at hl 0 rfl) ?_
  refine lv_iload_n hx hb dX6_comes_1 rfl (lv_at hl 1 rfl) ?_
  refine lv_iconst (v := 1) hx hb dX6_comes_2 (by decide) ?_
  refine lv_bipush (v := 10) hx hb dX6_comes_3 (by decide) ?_
  refine zcS (As := [.int (nI qn), .int 1, .int 10]) (rest := [.ref x9]) [] hg.1 ⟨hx, hb, hml, hown, hts⟩ (c_X6_isIn hg l D cy (nI qn) 1 10) (va_cwS 3 hts gX6_comes_X6_isIn rfl rfl rfl (by decide +kernel) ⟨Nat.le_of_ble_eq_true rfl, Nat.le_of_ble_eq_true rfl⟩) hG hK hP hD hS hA rfl rfl rfl  rfl hl.1 rfl (Nat.le_of_ble_eq_true rfl) dX6_comes_5 ⟨Nat.zero_le _, Nat.zero_le _⟩ (fun H locs hP hD hS => ?_)
  have hP : va_P D vwCl [(x9, .inr (10, [.int th, .int (nI ch), .int era, .int why, .int det, .int cau, .int (zI sv), .int (zI rj), .ref v9, .ref b9, .ref s9, .ref k9, .ref p9, .ref t9, .ref n9, .int (nI tn), .int (nI he), .int (nI en), .int (nI ln), .int (zI iw), .int (zI dg)])), (v9, .inl (cy 0, 188, .inl v)), (k9, .inl (cy 0, 188, .inl kf))] H := hP
  have hD : va_D A [(x9, .inr (10, [.int th, .int (nI ch), .int era, .int why, .int det, .int cau, .int (zI sv), .int (zI rj), .ref v9, .ref b9, .ref s9, .ref k9, .ref p9, .ref t9, .ref n9, .int (nI tn), .int (nI he), .int (nI en), .int (nI ln), .int (zI iw), .int (zI dg)])), (v9, .inl (cy 0, 188, .inl v)), (k9, .inl (cy 0, 188, .inl kf))] := hD
  refine lv_if_eq (tgt := 15) hx hb dX6_comes_8 (by decide) (fun c_1 => ?_) (fun c_1 => ?_)
  · replace c_1 := zI0 c_1
    exact absurd ((zic10 hq1 hq2).symm.trans c_1) (by decide)
  · replace c_1 := zI1 c_1
    refine lv_iconst (v := 0) hx hb dX6_comes_11 (by decide) ?_
    refine lv_goto (tgt := 16) hx hb dX6_comes_12 (by decide) ?_
    refine va_put (D := D) (ci := 10) (v := .int 0) (ty := .int) (C := RX6) (T := TX6) (N := 21) hx hb hts in_RX6 tyX6 tyX6_ok nmX6 hown hK hP hD hS 0 rfl rfl 0 (by decide) (hts _ (List.mem_of_getElem? (i := 1) rfl)) (fun _ h9 => h9) rfl (by decide +kernel) rfl rfl (Nat.le_of_ble_eq_true rfl) dX6_comes_16 (fun H locs hP hD hS => ?_)
    have hP : va_P D vwCl [(x9, .inr (10, [.int 0, .int (nI ch), .int era, .int why, .int det, .int cau, .int (zI sv), .int (zI rj), .ref v9, .ref b9, .ref s9, .ref k9, .ref p9, .ref t9, .ref n9, .int (nI tn), .int (nI he), .int (nI en), .int (nI ln), .int (zI iw), .int (zI dg)])), (v9, .inl (cy 0, 188, .inl v)), (k9, .inl (cy 0, 188, .inl kf))] H := hP
    have hD : va_D A [(x9, .inr (10, [.int 0, .int (nI ch), .int era, .int why, .int det, .int cau, .int (zI sv), .int (zI rj), .ref v9, .ref b9, .ref s9, .ref k9, .ref p9, .ref t9, .ref n9, .int (nI tn), .int (nI he), .int (nI en), .int (nI ln), .int (zI iw), .int (zI dg)])), (v9, .inl (cy 0, 188, .inl v)), (k9, .inl (cy 0, 188, .inl kf))] := hD
    refine lv_aload_n hx hb dX6_comes_19 rfl (lv_at hl 0 rfl) ?_
    refine va_get (D := D) (ci := 10) (v := .int 0) (C := RX6) (T := TX6) (N := 21) hx hb hts in_RX6 hown hK hP 0 rfl rfl 0 (by decide) (hts _ (List.mem_of_getElem? (i := 1) rfl)) (fun _ h9 => h9) rfl dX6_comes_20 ?_
    refine lv_if_eq (tgt := 28) hx hb dX6_comes_23 (by decide) (fun c_2 => ?_) (fun c_2 => ?_)
    · refine lv_aload_n hx hb dX6_comes_28 rfl (lv_at hl 0 rfl) ?_
      refine va_get (D := D) (ci := 10) (v := .ref k9) (C := RX6) (T := TX6) (N := 21) hx hb hts in_RX6 hown hK hP 0 rfl rfl 11 (by decide) (hts _ (List.mem_of_getElem? (i := 2) rfl)) (fun _ h9 => h9) rfl dX6_comes_29 ?_
      refine lv_aload_n hx hb dX6_comes_32 rfl (lv_at hl 0 rfl) ?_
      refine va_get (D := D) (ci := 10) (v := .ref v9) (C := RX6) (T := TX6) (N := 21) hx hb hts in_RX6 hown hK hP 0 rfl rfl 8 (by decide) (hts _ (List.mem_of_getElem? (i := 3) rfl)) (fun _ h9 => h9) rfl dX6_comes_33 ?_
      refine zcS (As := [.ref k9, .ref v9]) (rest := []) [2, 1] hg.1 ⟨hx, hb, hml, hown, hts⟩ (c_X6_lays hg l D cy k9 v9 kf v) (va_cwS 2 hts gX6_comes_X6_lays rfl rfl rfl (by decide +kernel) ⟨Nat.le_of_ble_eq_true rfl, Nat.le_of_ble_eq_true rfl⟩) hG hK hP hD hS hA rfl rfl (Eq.trans (b := [k9, v9]) rfl rfl)  rfl hl.1 rfl (Nat.le_of_ble_eq_true rfl) dX6_comes_36 ⟨Nat.zero_le _, Nat.zero_le _⟩ (fun H locs hP hD hS => ?_)
      have hP : va_P D vwCl [(x9, .inr (10, [.int 0, .int (nI ch), .int era, .int why, .int det, .int cau, .int (zI sv), .int (zI rj), .ref v9, .ref b9, .ref s9, .ref k9, .ref p9, .ref t9, .ref n9, .int (nI tn), .int (nI he), .int (nI en), .int (nI ln), .int (zI iw), .int (zI dg)])), (v9, .inl (cy 0, 188, .inl v)), (k9, .inl (cy 0, 188, .inl v))] H := hP
      have hD : va_D A [(x9, .inr (10, [.int 0, .int (nI ch), .int era, .int why, .int det, .int cau, .int (zI sv), .int (zI rj), .ref v9, .ref b9, .ref s9, .ref k9, .ref p9, .ref t9, .ref n9, .int (nI tn), .int (nI he), .int (nI en), .int (nI ln), .int (zI iw), .int (zI dg)])), (v9, .inl (cy 0, 188, .inl v)), (k9, .inl (cy 0, 188, .inl v))] := hD
      refine lv_iconst (v := 0) hx hb dX6_comes_39 (by decide) ?_
      refine lv_istore_n (lv' := [(3, .int 0), (0, .ref x9), (1, .int (nI qn)), (2, .int 1)]) hx hb dX6_comes_40 rfl hl (by decide) rfl (fun ls hl => ?_)
      refine lv_iconst (v := 0) hx hb dX6_comes_41 (by decide) ?_
      refine lv_istore (lv' := [(4, .int 0), (3, .int 0), (0, .ref x9), (1, .int (nI qn)), (2, .int 1)]) hx hb dX6_comes_42 hl (by decide) rfl (fun ls hl => ?_)
      refine lv_iconst (v := 0) hx hb dX6_comes_44 (by decide) ?_
      refine lv_istore (lv' := [(5, .int 0), (4, .int 0), (3, .int 0), (0, .ref x9), (1, .int (nI qn)), (2, .int 1)]) hx hb dX6_comes_45 hl (by decide) rfl (fun ls hl => ?_)
      have L47 : ∀ (F : Nat) (k : Nat) (x47_0 : Int32) (x47_1 : Int32) (x47_2 : Nat → Int32), k ≤ qn → qn - k < F → x47_0 = zcoS v rw cn k → x47_1 = zcoD v rw cn k → x47_2 = zco6 v rw cn k → ∀ (H : Heap) (locs : List Loc), va_P D vwCl [(x9, .inr (10, [.int 0, .int (nI ch), .int era, .int why, .int det, .int cau, .int (zI sv), .int (zI rj), .ref v9, .ref b9, .ref s9, .ref k9, .ref p9, .ref t9, .ref n9, .int (nI tn), .int (nI he), .int (nI en), .int (nI ln), .int (zI iw), .int (zI dg)])), (v9, .inl (cy 0, 188, .inl x47_2)), (k9, .inl (cy 0, 188, .inl v))] H → va_D A [(x9, .inr (10, [.int 0, .int (nI ch), .int era, .int why, .int det, .int cau, .int (zI sv), .int (zI rj), .ref v9, .ref b9, .ref s9, .ref k9, .ref p9, .ref t9, .ref n9, .int (nI tn), .int (nI he), .int (nI en), .int (nI ln), .int (zI iw), .int (zI dg)])), (v9, .inl (cy 0, 188, .inl x47_2)), (k9, .inl (cy 0, 188, .inl v))] → va_S A s.heap H locs → ∀ ls : Array Slot, lv_has ls 6 [(0, .ref x9), (1, .int (nI qn)), (2, .int 1), (3, .int x47_0), (4, .int x47_1), (5, .int (nI k))] → W p l e rmX6_comes_ok1 s m ([.ref x9, .int (nI qn), .int 1] : List Value).toArray below meth c H locs 0 0 Q (F0 m 47 ls []) := by
        intro F
        induction F with
        | zero =>
          intro k x47_0 x47_1 x47_2 hk hF ex47_0 ex47_1 ex47_2 H locs hP hD hS ls hl
          exact absurd hF (Nat.not_lt_zero _)
        | succ F ih47 =>
          intro k x47_0 x47_1 x47_2 hk hF ex47_0 ex47_1 ex47_2 H locs hP hD hS ls hl
          subst ex47_0
          subst ex47_1
          subst ex47_2
          refine lv_iload hx hb dX6_comes_47 (lv_at hl 5 rfl) ?_
          refine lv_iload_n hx hb dX6_comes_49 rfl (lv_at hl 1 rfl) ?_
          refine lv_icmp_ge (tgt := 93) hx hb dX6_comes_50 (by decide) (fun c_3 => ?_) (fun c_3 => ?_)
          · have hk2 : qn ≤ k := (nI_leI (by omega) (by omega)).mp c_3
            obtain rfl : qn = k := by omega
            refine lv_aload_n hx hb dX6_comes_93 rfl (lv_at hl 0 rfl) ?_
            refine va_get (D := D) (ci := 10) (v := .ref v9) (C := RX6) (T := TX6) (N := 21) hx hb hts in_RX6 hown hK hP 0 rfl rfl 8 (by decide) (hts _ (List.mem_of_getElem? (i := 3) rfl)) (fun _ h9 => h9) rfl dX6_comes_94 ?_
            refine lv_aload_n hx hb dX6_comes_97 rfl (lv_at hl 0 rfl) ?_
            refine va_get (D := D) (ci := 10) (v := .ref k9) (C := RX6) (T := TX6) (N := 21) hx hb hts in_RX6 hown hK hP 0 rfl rfl 11 (by decide) (hts _ (List.mem_of_getElem? (i := 2) rfl)) (fun _ h9 => h9) rfl dX6_comes_98 ?_
            refine zcS (As := [.ref v9, .ref k9]) (rest := []) [1, 2] hg.1 ⟨hx, hb, hml, hown, hts⟩ (c_X6_lays hg l D cy v9 k9 (zco6 v rw cn qn) v) (va_cwS 2 hts gX6_comes_X6_lays rfl rfl rfl (by decide +kernel) ⟨Nat.le_of_ble_eq_true rfl, Nat.le_of_ble_eq_true rfl⟩) hG hK hP hD hS hA rfl rfl (Eq.trans (b := [v9, k9]) rfl rfl)  rfl hl.1 rfl (Nat.le_of_ble_eq_true rfl) dX6_comes_101 ⟨Nat.zero_le _, Nat.zero_le _⟩ (fun H locs hP hD hS => ?_)
            have hP : va_P D vwCl [(x9, .inr (10, [.int 0, .int (nI ch), .int era, .int why, .int det, .int cau, .int (zI sv), .int (zI rj), .ref v9, .ref b9, .ref s9, .ref k9, .ref p9, .ref t9, .ref n9, .int (nI tn), .int (nI he), .int (nI en), .int (nI ln), .int (zI iw), .int (zI dg)])), (v9, .inl (cy 0, 188, .inl v)), (k9, .inl (cy 0, 188, .inl v))] H := hP
            have hD : va_D A [(x9, .inr (10, [.int 0, .int (nI ch), .int era, .int why, .int det, .int cau, .int (zI sv), .int (zI rj), .ref v9, .ref b9, .ref s9, .ref k9, .ref p9, .ref t9, .ref n9, .int (nI tn), .int (nI he), .int (nI en), .int (nI ln), .int (zI iw), .int (zI dg)])), (v9, .inl (cy 0, 188, .inl v)), (k9, .inl (cy 0, 188, .inl v))] := hD
            refine lv_iload_n hx hb dX6_comes_104 rfl (lv_at hl 2 rfl) ?_
            refine lv_if_eq (tgt := 112) hx hb dX6_comes_105 (by decide) (fun c_4 => ?_) (fun c_4 => ?_)
            · exact absurd c_4 (by decide)
            · refine lv_iload_n hx hb dX6_comes_108 rfl (lv_at hl 3 rfl) ?_
              refine lv_goto (tgt := 114) hx hb dX6_comes_109 (by decide) ?_
              exact ziret hend hx hb hr hlk hK hP hD hS dX6_comes_114 rfl rfl
          · have hk2 : k < qn := Nat.lt_of_not_le (fun z => c_3 (nI_le z (by omega)))
            refine lv_iload_n hx hb dX6_comes_53 rfl (lv_at hl 3 rfl) ?_
            refine lv_aload_n hx hb dX6_comes_54 rfl (lv_at hl 0 rfl) ?_
            refine lv_aload_n hx hb dX6_comes_55 rfl (lv_at hl 0 rfl) ?_
            refine va_get (D := D) (ci := 10) (v := .ref v9) (C := RX6) (T := TX6) (N := 21) hx hb hts in_RX6 hown hK hP 0 rfl rfl 8 (by decide) (hts _ (List.mem_of_getElem? (i := 3) rfl)) (fun _ h9 => h9) rfl dX6_comes_56 ?_
            refine lv_iconst (v := 5) hx hb dX6_comes_59 (by decide) ?_
            refine ziald 1 0 5 hx hb hK hP rfl rfl (by omega) (z_lt rfl) dX6_comes_60 ?_
            refine z_top (y := nI cn) ((zco6_n (by omega)).trans hv5) ?_
            refine lv_iload hx hb dX6_comes_61 (lv_at hl 5 rfl) ?_
            refine lv_iadd hx hb dX6_comes_63 ?_
            refine z_top (y := nI (cn + k)) (nI_add cn k) ?_
            refine zcV (As := [.int (nI (cn + k))]) (rest := [.int (zcoS v rw cn k)]) [0, 1] 0 hg.1 ⟨hx, hb, hml, hown, hts⟩ (c_X6_wide hg l D cy x9 0 ch era why det cau sv rj v9 b9 s9 k9 p9 t9 n9 tn he en ln iw dg (zco6 v rw cn k) (cn + k) rw ((zco6_n (by omega)).trans hv4) (by first | assumption | omega) (by first | assumption | omega)) (cwV 1 hts gX6_comes_X6_wide rfl rfl rfl (by decide +kernel) ⟨Nat.le_of_ble_eq_true rfl, Nat.le_of_ble_eq_true rfl⟩) hG hK hP hD hS hA rfl rfl rfl rfl rfl rfl hl.1 rfl (Nat.le_of_ble_eq_true rfl) dX6_comes_64 ⟨Nat.zero_le _, Nat.zero_le _⟩ (fun H locs hP hD hS => ?_)
            have hP : va_P D vwCl [(x9, .inr (10, [.int 0, .int (nI ch), .int era, .int why, .int det, .int cau, .int (zI sv), .int (zI rj), .ref v9, .ref b9, .ref s9, .ref k9, .ref p9, .ref t9, .ref n9, .int (nI tn), .int (nI he), .int (nI en), .int (nI ln), .int (zI iw), .int (zI dg)])), (v9, .inl (cy 0, 188, .inl (zco6 v rw cn k))), (k9, .inl (cy 0, 188, .inl v))] H := hP
            have hD : va_D A [(x9, .inr (10, [.int 0, .int (nI ch), .int era, .int why, .int det, .int cau, .int (zI sv), .int (zI rj), .ref v9, .ref b9, .ref s9, .ref k9, .ref p9, .ref t9, .ref n9, .int (nI tn), .int (nI he), .int (nI en), .int (nI ln), .int (zI iw), .int (zI dg)])), (v9, .inl (cy 0, 188, .inl (zco6 v rw cn k))), (k9, .inl (cy 0, 188, .inl v))] := hD
            refine lv_iadd hx hb dX6_comes_67 ?_
            refine lv_istore_n (lv' := [(3, .int ((zcoS v rw cn k) + (zwd6 (zco6 v rw cn k) rw (cn + k) 24))), (0, .ref x9), (1, .int (nI qn)), (2, .int 1), (4, .int (zcoD v rw cn k)), (5, .int (nI k))]) hx hb dX6_comes_68 rfl hl (by decide) rfl (fun ls hl => ?_)
            refine lv_iload hx hb dX6_comes_69 (lv_at hl 4 rfl) ?_
            refine lv_aload_n hx hb dX6_comes_71 rfl (lv_at hl 1 rfl) ?_
            refine lv_aload_n hx hb dX6_comes_72 rfl (lv_at hl 1 rfl) ?_
            refine va_get (D := D) (ci := 10) (v := .ref v9) (C := RX6) (T := TX6) (N := 21) hx hb hts in_RX6 hown hK hP 0 rfl rfl 8 (by decide) (hts _ (List.mem_of_getElem? (i := 3) rfl)) (fun _ h9 => h9) rfl dX6_comes_73 ?_
            refine lv_iconst (v := 5) hx hb dX6_comes_76 (by decide) ?_
            refine ziald 1 0 5 hx hb hK hP rfl rfl (by omega) (z_lt rfl) dX6_comes_77 ?_
            refine z_top (y := nI cn) ((zco6_n (by omega)).trans hv5) ?_
            refine lv_iload hx hb dX6_comes_78 (lv_at hl 5 rfl) ?_
            refine lv_iadd hx hb dX6_comes_80 ?_
            refine z_top (y := nI (cn + k)) (nI_add cn k) ?_
            refine zcV (As := [.int (nI (cn + k))]) (rest := [.int (zcoD v rw cn k)]) [0, 1] 0 hg.1 ⟨hx, hb, hml, hown, hts⟩ (c_X6_passes hg l D cy x9 0 ch era why det cau sv rj v9 b9 s9 k9 p9 t9 n9 tn he en ln iw dg (zco6 v rw cn k) (cn + k) rw ((zco6_n (by omega)).trans hv4) (by first | assumption | omega) (by first | assumption | omega)) (cwV 1 hts gX6_comes_X6_passes rfl rfl rfl (by decide +kernel) ⟨Nat.le_of_ble_eq_true rfl, Nat.le_of_ble_eq_true rfl⟩) hG hK hP hD hS hA rfl rfl (Eq.trans (b := [x9, v9]) rfl rfl) rfl rfl rfl hl.1 rfl (Nat.le_of_ble_eq_true rfl) dX6_comes_81 ⟨Nat.zero_le _, Nat.zero_le _⟩ (fun H locs hP hD hS => ?_)
            have hP : va_P D vwCl [(x9, .inr (10, [.int 0, .int (nI ch), .int era, .int why, .int det, .int cau, .int (zI sv), .int (zI rj), .ref v9, .ref b9, .ref s9, .ref k9, .ref p9, .ref t9, .ref n9, .int (nI tn), .int (nI he), .int (nI en), .int (nI ln), .int (zI iw), .int (zI dg)])), (v9, .inl (cy 0, 188, .inl (zpsV (zst6 (zco6 v rw cn k) rw (cn + k) 24) (zco6 v rw cn k) 24))), (k9, .inl (cy 0, 188, .inl v))] H := hP
            have hD : va_D A [(x9, .inr (10, [.int 0, .int (nI ch), .int era, .int why, .int det, .int cau, .int (zI sv), .int (zI rj), .ref v9, .ref b9, .ref s9, .ref k9, .ref p9, .ref t9, .ref n9, .int (nI tn), .int (nI he), .int (nI en), .int (nI ln), .int (zI iw), .int (zI dg)])), (v9, .inl (cy 0, 188, .inl (zpsV (zst6 (zco6 v rw cn k) rw (cn + k) 24) (zco6 v rw cn k) 24))), (k9, .inl (cy 0, 188, .inl v))] := hD
            refine lv_iadd hx hb dX6_comes_84 ?_
            refine lv_istore (lv' := [(4, .int ((zcoD v rw cn k) + (zpsD (zst6 (zco6 v rw cn k) rw (cn + k) 24) (zco6 v rw cn k) 24))), (3, .int ((zcoS v rw cn k) + (zwd6 (zco6 v rw cn k) rw (cn + k) 24))), (0, .ref x9), (1, .int (nI qn)), (2, .int 1), (5, .int (nI k))]) hx hb dX6_comes_85 hl (by decide) rfl (fun ls hl => ?_)
            refine lv_iinc (v := nI (k + 1)) (lv' := [(5, .int (nI (k + 1))), (4, .int ((zcoD v rw cn k) + (zpsD (zst6 (zco6 v rw cn k) rw (cn + k) 24) (zco6 v rw cn k) 24))), (3, .int ((zcoS v rw cn k) + (zwd6 (zco6 v rw cn k) rw (cn + k) 24))), (0, .ref x9), (1, .int (nI qn)), (2, .int 1)]) hx hb dX6_comes_87 hl (k := 5) rfl (by rw [show Int32.ofInt 1 = nI 1 from rfl, nI_add]) (by decide) rfl (fun ls hl => ?_)
            refine lv_goto (tgt := 47) hx hb dX6_comes_90 (by decide) ?_
            exact ih47 (k + 1) ((zcoS v rw cn k) + (zwd6 (zco6 v rw cn k) rw (cn + k) 24)) ((zcoD v rw cn k) + (zpsD (zst6 (zco6 v rw cn k) rw (cn + k) 24) (zco6 v rw cn k) 24)) (zpsV (zst6 (zco6 v rw cn k) rw (cn + k) 24) (zco6 v rw cn k) 24) (by omega) (by omega) (by rfl) (by rfl) (by rfl) H locs hP hD hS ls (lv_sub hl [3, 4, 5, 2, 1, 0] rfl)
      exact L47 (qn - 0 + 1) 0 0 0 v (by omega) (Nat.lt_succ_self _) (by rfl) (by rfl) (by rfl) H locs hP hD hS ls (lv_sub hl [3, 4, 5, 2, 1, 0] rfl)
    · exact absurd c_2 (by decide)

abbrev rmX6_stitchesIn_ok : Room := { frames := 4, cells := 0, slots := 0, locals := 94 }
set_option maxHeartbeats 4000000 in
set_option maxRecDepth 100000 in
theorem c_X6_stitchesIn_ok {G : zG} (hg : zGN G) (l : Launch) (D : va_G) (cy : Nat → ClassId) (x9 : Nat) (th : Int32) (ch : Nat) (era : Int32) (why : Int32) (det : Int32) (cau : Int32) (sv : Bool) (rj : Bool) (v9 : Nat) (b9 : Nat) (s9 : Nat) (k9 : Nat) (p9 : Nat) (t9 : Nat) (n9 : Nat) (tn : Nat) (he : Nat) (en : Nat) (ln : Nat) (iw : Bool) (dg : Bool) (v : Nat → Int32) (kf : Nat → Int32) (rw : Nat) (cn : Nat) (qn : Nat) (hv4 : v 4 = nI rw) (hrw : rw ≤ 6) (hv5 : v 5 = nI cn) (hcn : cn ≤ 30) (hq1 : 0 < qn) (hq2 : qn ≤ 10) : zM G D vwCl (zT cy) l yX6_stitchesIn wsX6_stitchesIn rmX6_stitchesIn_ok [.ref x9, .int (nI qn)] [(x9, .inr (10, [.int th, .int (nI ch), .int era, .int why, .int det, .int cau, .int (zI sv), .int (zI rj), .ref v9, .ref b9, .ref s9, .ref k9, .ref p9, .ref t9, .ref n9, .int (nI tn), .int (nI he), .int (nI en), .int (nI ln), .int (zI iw), .int (zI dg)])), (v9, .inl (cy 0, 188, .inl v)), (k9, .inl (cy 0, 188, .inl kf))] (some (.int (zcoS v rw cn qn))) [(x9, .inr (10, [.int 0, .int (nI ch), .int era, .int why, .int det, .int cau, .int (zI sv), .int (zI rj), .ref v9, .ref b9, .ref s9, .ref k9, .ref p9, .ref t9, .ref n9, .int (nI tn), .int (nI he), .int (nI en), .int (nI ln), .int (zI iw), .int (zI dg)])), (v9, .inl (cy 0, 188, .inl v)), (k9, .inl (cy 0, 188, .inl v))] := by
  refine zM_of (cc := cX6_stitchesIn) (maxL := 2) (ret := (some .int)) (by decide) rfl (Nat.le_of_ble_eq_true rfl) ?_
  intro p e s m below meth c A Q hend hx hb hml hr hts hown hlk hG hK hP hD hA hS ls hl
  have hown : s.vm.findClass RX6 = some m.cls := hown
  have hl : lv_has ls 2 [(0, .ref x9), (1, .int (nI qn))] := hl
  refine lv_aload_n hx hb dX6_stitchesIn_0 rfl (lv_at hl 0 rfl) ?_
  refine lv_iload_n hx hb dX6_stitchesIn_1 rfl (lv_at hl 1 rfl) ?_
  refine lv_iconst (v := 1) hx hb dX6_stitchesIn_2 (by decide) ?_
  refine zcV (As := [.int (nI qn), .int 1]) (rest := []) [0, 1, 2] 0 hg.1 ⟨hx, hb, hml, hown, hts⟩ (c_X6_comes_ok1 hg l D cy x9 th ch era why det cau sv rj v9 b9 s9 k9 p9 t9 n9 tn he en ln iw dg v kf rw cn qn (by first | assumption | omega) (by first | assumption | omega) (by first | assumption | omega) (by first | assumption | omega) (by first | assumption | omega) (by first | assumption | omega)) (cwV 2 hts gX6_stitchesIn_X6_comes rfl rfl rfl (by decide +kernel) ⟨Nat.le_of_ble_eq_true rfl, Nat.le_of_ble_eq_true rfl⟩) hG hK hP hD hS hA rfl rfl (Eq.trans (b := [x9, v9, k9]) rfl rfl) rfl rfl rfl hl.1 rfl (Nat.le_of_ble_eq_true rfl) dX6_stitchesIn_3 ⟨Nat.zero_le _, Nat.zero_le _⟩ (fun H locs hP hD hS => ?_)
  have hP : va_P D vwCl [(x9, .inr (10, [.int 0, .int (nI ch), .int era, .int why, .int det, .int cau, .int (zI sv), .int (zI rj), .ref v9, .ref b9, .ref s9, .ref k9, .ref p9, .ref t9, .ref n9, .int (nI tn), .int (nI he), .int (nI en), .int (nI ln), .int (zI iw), .int (zI dg)])), (v9, .inl (cy 0, 188, .inl v)), (k9, .inl (cy 0, 188, .inl v))] H := hP
  have hD : va_D A [(x9, .inr (10, [.int 0, .int (nI ch), .int era, .int why, .int det, .int cau, .int (zI sv), .int (zI rj), .ref v9, .ref b9, .ref s9, .ref k9, .ref p9, .ref t9, .ref n9, .int (nI tn), .int (nI he), .int (nI en), .int (nI ln), .int (zI iw), .int (zI dg)])), (v9, .inl (cy 0, 188, .inl v)), (k9, .inl (cy 0, 188, .inl v))] := hD
  exact ziret hend hx hb hr hlk hK hP hD hS dX6_stitchesIn_6 rfl rfl

abbrev rmX6_comes_ok0 : Room := { frames := 3, cells := 0, slots := 0, locals := 69 }
set_option maxHeartbeats 4000000 in
set_option maxRecDepth 100000 in
theorem c_X6_comes_ok0 {G : zG} (hg : zGN G) (l : Launch) (D : va_G) (cy : Nat → ClassId) (x9 : Nat) (th : Int32) (ch : Nat) (era : Int32) (why : Int32) (det : Int32) (cau : Int32) (sv : Bool) (rj : Bool) (v9 : Nat) (b9 : Nat) (s9 : Nat) (k9 : Nat) (p9 : Nat) (t9 : Nat) (n9 : Nat) (tn : Nat) (he : Nat) (en : Nat) (ln : Nat) (iw : Bool) (dg : Bool) (v : Nat → Int32) (kf : Nat → Int32) (rw : Nat) (cn : Nat) (qn : Nat) (hv4 : v 4 = nI rw) (hrw : rw ≤ 6) (hv5 : v 5 = nI cn) (hcn : cn ≤ 30) (hq1 : 0 < qn) (hq2 : qn ≤ 10) : zM G D vwCl (zT cy) l yX6_comes wsX6_comes rmX6_comes_ok0 [.ref x9, .int (nI qn), .int 0] [(x9, .inr (10, [.int th, .int (nI ch), .int era, .int why, .int det, .int cau, .int (zI sv), .int (zI rj), .ref v9, .ref b9, .ref s9, .ref k9, .ref p9, .ref t9, .ref n9, .int (nI tn), .int (nI he), .int (nI en), .int (nI ln), .int (zI iw), .int (zI dg)])), (v9, .inl (cy 0, 188, .inl v)), (k9, .inl (cy 0, 188, .inl kf))] (some (.int (zcoD v rw cn qn))) [(x9, .inr (10, [.int 0, .int (nI ch), .int era, .int why, .int det, .int cau, .int (zI sv), .int (zI rj), .ref v9, .ref b9, .ref s9, .ref k9, .ref p9, .ref t9, .ref n9, .int (nI tn), .int (nI he), .int (nI en), .int (nI ln), .int (zI iw), .int (zI dg)])), (v9, .inl (cy 0, 188, .inl v)), (k9, .inl (cy 0, 188, .inl v))] := by
  refine zM_of (cc := cX6_comes) (maxL := 6) (ret := (some .int)) (by decide) rfl (Nat.le_of_ble_eq_true rfl) ?_
  intro p e s m below meth c A Q hend hx hb hml hr hts hown hlk hG hK hP hD hA hS ls hl
  have hown : s.vm.findClass RX6 = some m.cls := hown
  have in_RX6 : ∀ w ∈ u_ws RX6 TX6 21, w ∈ wsX6_comes := by decide +kernel
  have hl : lv_has ls 6 [(0, .ref x9), (1, .int (nI qn)), (2, .int 0)] := hl
  refine lv_aload_n hx hb dX6_comes_0 rfl (lv_at hl 0 rfl) ?_
  refine lv_iload_n hx hb dX6_comes_1 rfl (lv_at hl 1 rfl) ?_
  refine lv_iconst (v := 1) hx hb dX6_comes_2 (by decide) ?_
  refine lv_bipush (v := 10) hx hb dX6_comes_3 (by decide) ?_
  refine zcS (As := [.int (nI qn), .int 1, .int 10]) (rest := [.ref x9]) [] hg.1 ⟨hx, hb, hml, hown, hts⟩ (c_X6_isIn hg l D cy (nI qn) 1 10) (va_cwS 3 hts gX6_comes_X6_isIn rfl rfl rfl (by decide +kernel) ⟨Nat.le_of_ble_eq_true rfl, Nat.le_of_ble_eq_true rfl⟩) hG hK hP hD hS hA rfl rfl rfl  rfl hl.1 rfl (Nat.le_of_ble_eq_true rfl) dX6_comes_5 ⟨Nat.zero_le _, Nat.zero_le _⟩ (fun H locs hP hD hS => ?_)
  have hP : va_P D vwCl [(x9, .inr (10, [.int th, .int (nI ch), .int era, .int why, .int det, .int cau, .int (zI sv), .int (zI rj), .ref v9, .ref b9, .ref s9, .ref k9, .ref p9, .ref t9, .ref n9, .int (nI tn), .int (nI he), .int (nI en), .int (nI ln), .int (zI iw), .int (zI dg)])), (v9, .inl (cy 0, 188, .inl v)), (k9, .inl (cy 0, 188, .inl kf))] H := hP
  have hD : va_D A [(x9, .inr (10, [.int th, .int (nI ch), .int era, .int why, .int det, .int cau, .int (zI sv), .int (zI rj), .ref v9, .ref b9, .ref s9, .ref k9, .ref p9, .ref t9, .ref n9, .int (nI tn), .int (nI he), .int (nI en), .int (nI ln), .int (zI iw), .int (zI dg)])), (v9, .inl (cy 0, 188, .inl v)), (k9, .inl (cy 0, 188, .inl kf))] := hD
  refine lv_if_eq (tgt := 15) hx hb dX6_comes_8 (by decide) (fun c_1 => ?_) (fun c_1 => ?_)
  · replace c_1 := zI0 c_1
    exact absurd ((zic10 hq1 hq2).symm.trans c_1) (by decide)
  · replace c_1 := zI1 c_1
    refine lv_iconst (v := 0) hx hb dX6_comes_11 (by decide) ?_
    refine lv_goto (tgt := 16) hx hb dX6_comes_12 (by decide) ?_
    refine va_put (D := D) (ci := 10) (v := .int 0) (ty := .int) (C := RX6) (T := TX6) (N := 21) hx hb hts in_RX6 tyX6 tyX6_ok nmX6 hown hK hP hD hS 0 rfl rfl 0 (by decide) (hts _ (List.mem_of_getElem? (i := 1) rfl)) (fun _ h9 => h9) rfl (by decide +kernel) rfl rfl (Nat.le_of_ble_eq_true rfl) dX6_comes_16 (fun H locs hP hD hS => ?_)
    have hP : va_P D vwCl [(x9, .inr (10, [.int 0, .int (nI ch), .int era, .int why, .int det, .int cau, .int (zI sv), .int (zI rj), .ref v9, .ref b9, .ref s9, .ref k9, .ref p9, .ref t9, .ref n9, .int (nI tn), .int (nI he), .int (nI en), .int (nI ln), .int (zI iw), .int (zI dg)])), (v9, .inl (cy 0, 188, .inl v)), (k9, .inl (cy 0, 188, .inl kf))] H := hP
    have hD : va_D A [(x9, .inr (10, [.int 0, .int (nI ch), .int era, .int why, .int det, .int cau, .int (zI sv), .int (zI rj), .ref v9, .ref b9, .ref s9, .ref k9, .ref p9, .ref t9, .ref n9, .int (nI tn), .int (nI he), .int (nI en), .int (nI ln), .int (zI iw), .int (zI dg)])), (v9, .inl (cy 0, 188, .inl v)), (k9, .inl (cy 0, 188, .inl kf))] := hD
    refine lv_aload_n hx hb dX6_comes_19 rfl (lv_at hl 0 rfl) ?_
    refine va_get (D := D) (ci := 10) (v := .int 0) (C := RX6) (T := TX6) (N := 21) hx hb hts in_RX6 hown hK hP 0 rfl rfl 0 (by decide) (hts _ (List.mem_of_getElem? (i := 1) rfl)) (fun _ h9 => h9) rfl dX6_comes_20 ?_
    refine lv_if_eq (tgt := 28) hx hb dX6_comes_23 (by decide) (fun c_2 => ?_) (fun c_2 => ?_)
    · refine lv_aload_n hx hb dX6_comes_28 rfl (lv_at hl 0 rfl) ?_
      refine va_get (D := D) (ci := 10) (v := .ref k9) (C := RX6) (T := TX6) (N := 21) hx hb hts in_RX6 hown hK hP 0 rfl rfl 11 (by decide) (hts _ (List.mem_of_getElem? (i := 2) rfl)) (fun _ h9 => h9) rfl dX6_comes_29 ?_
      refine lv_aload_n hx hb dX6_comes_32 rfl (lv_at hl 0 rfl) ?_
      refine va_get (D := D) (ci := 10) (v := .ref v9) (C := RX6) (T := TX6) (N := 21) hx hb hts in_RX6 hown hK hP 0 rfl rfl 8 (by decide) (hts _ (List.mem_of_getElem? (i := 3) rfl)) (fun _ h9 => h9) rfl dX6_comes_33 ?_
      refine zcS (As := [.ref k9, .ref v9]) (rest := []) [2, 1] hg.1 ⟨hx, hb, hml, hown, hts⟩ (c_X6_lays hg l D cy k9 v9 kf v) (va_cwS 2 hts gX6_comes_X6_lays rfl rfl rfl (by decide +kernel) ⟨Nat.le_of_ble_eq_true rfl, Nat.le_of_ble_eq_true rfl⟩) hG hK hP hD hS hA rfl rfl (Eq.trans (b := [k9, v9]) rfl rfl)  rfl hl.1 rfl (Nat.le_of_ble_eq_true rfl) dX6_comes_36 ⟨Nat.zero_le _, Nat.zero_le _⟩ (fun H locs hP hD hS => ?_)
      have hP : va_P D vwCl [(x9, .inr (10, [.int 0, .int (nI ch), .int era, .int why, .int det, .int cau, .int (zI sv), .int (zI rj), .ref v9, .ref b9, .ref s9, .ref k9, .ref p9, .ref t9, .ref n9, .int (nI tn), .int (nI he), .int (nI en), .int (nI ln), .int (zI iw), .int (zI dg)])), (v9, .inl (cy 0, 188, .inl v)), (k9, .inl (cy 0, 188, .inl v))] H := hP
      have hD : va_D A [(x9, .inr (10, [.int 0, .int (nI ch), .int era, .int why, .int det, .int cau, .int (zI sv), .int (zI rj), .ref v9, .ref b9, .ref s9, .ref k9, .ref p9, .ref t9, .ref n9, .int (nI tn), .int (nI he), .int (nI en), .int (nI ln), .int (zI iw), .int (zI dg)])), (v9, .inl (cy 0, 188, .inl v)), (k9, .inl (cy 0, 188, .inl v))] := hD
      refine lv_iconst (v := 0) hx hb dX6_comes_39 (by decide) ?_
      refine lv_istore_n (lv' := [(3, .int 0), (0, .ref x9), (1, .int (nI qn)), (2, .int 0)]) hx hb dX6_comes_40 rfl hl (by decide) rfl (fun ls hl => ?_)
      refine lv_iconst (v := 0) hx hb dX6_comes_41 (by decide) ?_
      refine lv_istore (lv' := [(4, .int 0), (3, .int 0), (0, .ref x9), (1, .int (nI qn)), (2, .int 0)]) hx hb dX6_comes_42 hl (by decide) rfl (fun ls hl => ?_)
      refine lv_iconst (v := 0) hx hb dX6_comes_44 (by decide) ?_
      refine lv_istore (lv' := [(5, .int 0), (4, .int 0), (3, .int 0), (0, .ref x9), (1, .int (nI qn)), (2, .int 0)]) hx hb dX6_comes_45 hl (by decide) rfl (fun ls hl => ?_)
      have L47 : ∀ (F : Nat) (k : Nat) (x47_0 : Int32) (x47_1 : Int32) (x47_2 : Nat → Int32), k ≤ qn → qn - k < F → x47_0 = zcoS v rw cn k → x47_1 = zcoD v rw cn k → x47_2 = zco6 v rw cn k → ∀ (H : Heap) (locs : List Loc), va_P D vwCl [(x9, .inr (10, [.int 0, .int (nI ch), .int era, .int why, .int det, .int cau, .int (zI sv), .int (zI rj), .ref v9, .ref b9, .ref s9, .ref k9, .ref p9, .ref t9, .ref n9, .int (nI tn), .int (nI he), .int (nI en), .int (nI ln), .int (zI iw), .int (zI dg)])), (v9, .inl (cy 0, 188, .inl x47_2)), (k9, .inl (cy 0, 188, .inl v))] H → va_D A [(x9, .inr (10, [.int 0, .int (nI ch), .int era, .int why, .int det, .int cau, .int (zI sv), .int (zI rj), .ref v9, .ref b9, .ref s9, .ref k9, .ref p9, .ref t9, .ref n9, .int (nI tn), .int (nI he), .int (nI en), .int (nI ln), .int (zI iw), .int (zI dg)])), (v9, .inl (cy 0, 188, .inl x47_2)), (k9, .inl (cy 0, 188, .inl v))] → va_S A s.heap H locs → ∀ ls : Array Slot, lv_has ls 6 [(0, .ref x9), (1, .int (nI qn)), (2, .int 0), (3, .int x47_0), (4, .int x47_1), (5, .int (nI k))] → W p l e rmX6_comes_ok0 s m ([.ref x9, .int (nI qn), .int 0] : List Value).toArray below meth c H locs 0 0 Q (F0 m 47 ls []) := by
        intro F
        induction F with
        | zero =>
          intro k x47_0 x47_1 x47_2 hk hF ex47_0 ex47_1 ex47_2 H locs hP hD hS ls hl
          exact absurd hF (Nat.not_lt_zero _)
        | succ F ih47 =>
          intro k x47_0 x47_1 x47_2 hk hF ex47_0 ex47_1 ex47_2 H locs hP hD hS ls hl
          subst ex47_0
          subst ex47_1
          subst ex47_2
          refine lv_iload hx hb dX6_comes_47 (lv_at hl 5 rfl) ?_
          refine lv_iload_n hx hb dX6_comes_49 rfl (lv_at hl 1 rfl) ?_
          refine lv_icmp_ge (tgt := 93) hx hb dX6_comes_50 (by decide) (fun c_3 => ?_) (fun c_3 => ?_)
          · have hk2 : qn ≤ k := (nI_leI (by omega) (by omega)).mp c_3
            obtain rfl : qn = k := by omega
            refine lv_aload_n hx hb dX6_comes_93 rfl (lv_at hl 0 rfl) ?_
            refine va_get (D := D) (ci := 10) (v := .ref v9) (C := RX6) (T := TX6) (N := 21) hx hb hts in_RX6 hown hK hP 0 rfl rfl 8 (by decide) (hts _ (List.mem_of_getElem? (i := 3) rfl)) (fun _ h9 => h9) rfl dX6_comes_94 ?_
            refine lv_aload_n hx hb dX6_comes_97 rfl (lv_at hl 0 rfl) ?_
            refine va_get (D := D) (ci := 10) (v := .ref k9) (C := RX6) (T := TX6) (N := 21) hx hb hts in_RX6 hown hK hP 0 rfl rfl 11 (by decide) (hts _ (List.mem_of_getElem? (i := 2) rfl)) (fun _ h9 => h9) rfl dX6_comes_98 ?_
            refine zcS (As := [.ref v9, .ref k9]) (rest := []) [1, 2] hg.1 ⟨hx, hb, hml, hown, hts⟩ (c_X6_lays hg l D cy v9 k9 (zco6 v rw cn qn) v) (va_cwS 2 hts gX6_comes_X6_lays rfl rfl rfl (by decide +kernel) ⟨Nat.le_of_ble_eq_true rfl, Nat.le_of_ble_eq_true rfl⟩) hG hK hP hD hS hA rfl rfl (Eq.trans (b := [v9, k9]) rfl rfl)  rfl hl.1 rfl (Nat.le_of_ble_eq_true rfl) dX6_comes_101 ⟨Nat.zero_le _, Nat.zero_le _⟩ (fun H locs hP hD hS => ?_)
            have hP : va_P D vwCl [(x9, .inr (10, [.int 0, .int (nI ch), .int era, .int why, .int det, .int cau, .int (zI sv), .int (zI rj), .ref v9, .ref b9, .ref s9, .ref k9, .ref p9, .ref t9, .ref n9, .int (nI tn), .int (nI he), .int (nI en), .int (nI ln), .int (zI iw), .int (zI dg)])), (v9, .inl (cy 0, 188, .inl v)), (k9, .inl (cy 0, 188, .inl v))] H := hP
            have hD : va_D A [(x9, .inr (10, [.int 0, .int (nI ch), .int era, .int why, .int det, .int cau, .int (zI sv), .int (zI rj), .ref v9, .ref b9, .ref s9, .ref k9, .ref p9, .ref t9, .ref n9, .int (nI tn), .int (nI he), .int (nI en), .int (nI ln), .int (zI iw), .int (zI dg)])), (v9, .inl (cy 0, 188, .inl v)), (k9, .inl (cy 0, 188, .inl v))] := hD
            refine lv_iload_n hx hb dX6_comes_104 rfl (lv_at hl 2 rfl) ?_
            refine lv_if_eq (tgt := 112) hx hb dX6_comes_105 (by decide) (fun c_4 => ?_) (fun c_4 => ?_)
            · refine lv_iload hx hb dX6_comes_112 (lv_at hl 4 rfl) ?_
              exact ziret hend hx hb hr hlk hK hP hD hS dX6_comes_114 rfl rfl
            · exact absurd c_4 (by decide)
          · have hk2 : k < qn := Nat.lt_of_not_le (fun z => c_3 (nI_le z (by omega)))
            refine lv_iload_n hx hb dX6_comes_53 rfl (lv_at hl 3 rfl) ?_
            refine lv_aload_n hx hb dX6_comes_54 rfl (lv_at hl 0 rfl) ?_
            refine lv_aload_n hx hb dX6_comes_55 rfl (lv_at hl 0 rfl) ?_
            refine va_get (D := D) (ci := 10) (v := .ref v9) (C := RX6) (T := TX6) (N := 21) hx hb hts in_RX6 hown hK hP 0 rfl rfl 8 (by decide) (hts _ (List.mem_of_getElem? (i := 3) rfl)) (fun _ h9 => h9) rfl dX6_comes_56 ?_
            refine lv_iconst (v := 5) hx hb dX6_comes_59 (by decide) ?_
            refine ziald 1 0 5 hx hb hK hP rfl rfl (by omega) (z_lt rfl) dX6_comes_60 ?_
            refine z_top (y := nI cn) ((zco6_n (by omega)).trans hv5) ?_
            refine lv_iload hx hb dX6_comes_61 (lv_at hl 5 rfl) ?_
            refine lv_iadd hx hb dX6_comes_63 ?_
            refine z_top (y := nI (cn + k)) (nI_add cn k) ?_
            refine zcV (As := [.int (nI (cn + k))]) (rest := [.int (zcoS v rw cn k)]) [0, 1] 0 hg.1 ⟨hx, hb, hml, hown, hts⟩ (c_X6_wide hg l D cy x9 0 ch era why det cau sv rj v9 b9 s9 k9 p9 t9 n9 tn he en ln iw dg (zco6 v rw cn k) (cn + k) rw ((zco6_n (by omega)).trans hv4) (by first | assumption | omega) (by first | assumption | omega)) (cwV 1 hts gX6_comes_X6_wide rfl rfl rfl (by decide +kernel) ⟨Nat.le_of_ble_eq_true rfl, Nat.le_of_ble_eq_true rfl⟩) hG hK hP hD hS hA rfl rfl rfl rfl rfl rfl hl.1 rfl (Nat.le_of_ble_eq_true rfl) dX6_comes_64 ⟨Nat.zero_le _, Nat.zero_le _⟩ (fun H locs hP hD hS => ?_)
            have hP : va_P D vwCl [(x9, .inr (10, [.int 0, .int (nI ch), .int era, .int why, .int det, .int cau, .int (zI sv), .int (zI rj), .ref v9, .ref b9, .ref s9, .ref k9, .ref p9, .ref t9, .ref n9, .int (nI tn), .int (nI he), .int (nI en), .int (nI ln), .int (zI iw), .int (zI dg)])), (v9, .inl (cy 0, 188, .inl (zco6 v rw cn k))), (k9, .inl (cy 0, 188, .inl v))] H := hP
            have hD : va_D A [(x9, .inr (10, [.int 0, .int (nI ch), .int era, .int why, .int det, .int cau, .int (zI sv), .int (zI rj), .ref v9, .ref b9, .ref s9, .ref k9, .ref p9, .ref t9, .ref n9, .int (nI tn), .int (nI he), .int (nI en), .int (nI ln), .int (zI iw), .int (zI dg)])), (v9, .inl (cy 0, 188, .inl (zco6 v rw cn k))), (k9, .inl (cy 0, 188, .inl v))] := hD
            refine lv_iadd hx hb dX6_comes_67 ?_
            refine lv_istore_n (lv' := [(3, .int ((zcoS v rw cn k) + (zwd6 (zco6 v rw cn k) rw (cn + k) 24))), (0, .ref x9), (1, .int (nI qn)), (2, .int 0), (4, .int (zcoD v rw cn k)), (5, .int (nI k))]) hx hb dX6_comes_68 rfl hl (by decide) rfl (fun ls hl => ?_)
            refine lv_iload hx hb dX6_comes_69 (lv_at hl 4 rfl) ?_
            refine lv_aload_n hx hb dX6_comes_71 rfl (lv_at hl 1 rfl) ?_
            refine lv_aload_n hx hb dX6_comes_72 rfl (lv_at hl 1 rfl) ?_
            refine va_get (D := D) (ci := 10) (v := .ref v9) (C := RX6) (T := TX6) (N := 21) hx hb hts in_RX6 hown hK hP 0 rfl rfl 8 (by decide) (hts _ (List.mem_of_getElem? (i := 3) rfl)) (fun _ h9 => h9) rfl dX6_comes_73 ?_
            refine lv_iconst (v := 5) hx hb dX6_comes_76 (by decide) ?_
            refine ziald 1 0 5 hx hb hK hP rfl rfl (by omega) (z_lt rfl) dX6_comes_77 ?_
            refine z_top (y := nI cn) ((zco6_n (by omega)).trans hv5) ?_
            refine lv_iload hx hb dX6_comes_78 (lv_at hl 5 rfl) ?_
            refine lv_iadd hx hb dX6_comes_80 ?_
            refine z_top (y := nI (cn + k)) (nI_add cn k) ?_
            refine zcV (As := [.int (nI (cn + k))]) (rest := [.int (zcoD v rw cn k)]) [0, 1] 0 hg.1 ⟨hx, hb, hml, hown, hts⟩ (c_X6_passes hg l D cy x9 0 ch era why det cau sv rj v9 b9 s9 k9 p9 t9 n9 tn he en ln iw dg (zco6 v rw cn k) (cn + k) rw ((zco6_n (by omega)).trans hv4) (by first | assumption | omega) (by first | assumption | omega)) (cwV 1 hts gX6_comes_X6_passes rfl rfl rfl (by decide +kernel) ⟨Nat.le_of_ble_eq_true rfl, Nat.le_of_ble_eq_true rfl⟩) hG hK hP hD hS hA rfl rfl (Eq.trans (b := [x9, v9]) rfl rfl) rfl rfl rfl hl.1 rfl (Nat.le_of_ble_eq_true rfl) dX6_comes_81 ⟨Nat.zero_le _, Nat.zero_le _⟩ (fun H locs hP hD hS => ?_)
            have hP : va_P D vwCl [(x9, .inr (10, [.int 0, .int (nI ch), .int era, .int why, .int det, .int cau, .int (zI sv), .int (zI rj), .ref v9, .ref b9, .ref s9, .ref k9, .ref p9, .ref t9, .ref n9, .int (nI tn), .int (nI he), .int (nI en), .int (nI ln), .int (zI iw), .int (zI dg)])), (v9, .inl (cy 0, 188, .inl (zpsV (zst6 (zco6 v rw cn k) rw (cn + k) 24) (zco6 v rw cn k) 24))), (k9, .inl (cy 0, 188, .inl v))] H := hP
            have hD : va_D A [(x9, .inr (10, [.int 0, .int (nI ch), .int era, .int why, .int det, .int cau, .int (zI sv), .int (zI rj), .ref v9, .ref b9, .ref s9, .ref k9, .ref p9, .ref t9, .ref n9, .int (nI tn), .int (nI he), .int (nI en), .int (nI ln), .int (zI iw), .int (zI dg)])), (v9, .inl (cy 0, 188, .inl (zpsV (zst6 (zco6 v rw cn k) rw (cn + k) 24) (zco6 v rw cn k) 24))), (k9, .inl (cy 0, 188, .inl v))] := hD
            refine lv_iadd hx hb dX6_comes_84 ?_
            refine lv_istore (lv' := [(4, .int ((zcoD v rw cn k) + (zpsD (zst6 (zco6 v rw cn k) rw (cn + k) 24) (zco6 v rw cn k) 24))), (3, .int ((zcoS v rw cn k) + (zwd6 (zco6 v rw cn k) rw (cn + k) 24))), (0, .ref x9), (1, .int (nI qn)), (2, .int 0), (5, .int (nI k))]) hx hb dX6_comes_85 hl (by decide) rfl (fun ls hl => ?_)
            refine lv_iinc (v := nI (k + 1)) (lv' := [(5, .int (nI (k + 1))), (4, .int ((zcoD v rw cn k) + (zpsD (zst6 (zco6 v rw cn k) rw (cn + k) 24) (zco6 v rw cn k) 24))), (3, .int ((zcoS v rw cn k) + (zwd6 (zco6 v rw cn k) rw (cn + k) 24))), (0, .ref x9), (1, .int (nI qn)), (2, .int 0)]) hx hb dX6_comes_87 hl (k := 5) rfl (by rw [show Int32.ofInt 1 = nI 1 from rfl, nI_add]) (by decide) rfl (fun ls hl => ?_)
            refine lv_goto (tgt := 47) hx hb dX6_comes_90 (by decide) ?_
            exact ih47 (k + 1) ((zcoS v rw cn k) + (zwd6 (zco6 v rw cn k) rw (cn + k) 24)) ((zcoD v rw cn k) + (zpsD (zst6 (zco6 v rw cn k) rw (cn + k) 24) (zco6 v rw cn k) 24)) (zpsV (zst6 (zco6 v rw cn k) rw (cn + k) 24) (zco6 v rw cn k) 24) (by omega) (by omega) (by rfl) (by rfl) (by rfl) H locs hP hD hS ls (lv_sub hl [3, 4, 5, 2, 1, 0] rfl)
      exact L47 (qn - 0 + 1) 0 0 0 v (by omega) (Nat.lt_succ_self _) (by rfl) (by rfl) (by rfl) H locs hP hD hS ls (lv_sub hl [3, 4, 5, 2, 1, 0] rfl)
    · exact absurd c_2 (by decide)

abbrev rmX6_dropsIn_ok : Room := { frames := 4, cells := 0, slots := 0, locals := 94 }
set_option maxHeartbeats 4000000 in
set_option maxRecDepth 100000 in
theorem c_X6_dropsIn_ok {G : zG} (hg : zGN G) (l : Launch) (D : va_G) (cy : Nat → ClassId) (x9 : Nat) (th : Int32) (ch : Nat) (era : Int32) (why : Int32) (det : Int32) (cau : Int32) (sv : Bool) (rj : Bool) (v9 : Nat) (b9 : Nat) (s9 : Nat) (k9 : Nat) (p9 : Nat) (t9 : Nat) (n9 : Nat) (tn : Nat) (he : Nat) (en : Nat) (ln : Nat) (iw : Bool) (dg : Bool) (v : Nat → Int32) (kf : Nat → Int32) (rw : Nat) (cn : Nat) (qn : Nat) (hv4 : v 4 = nI rw) (hrw : rw ≤ 6) (hv5 : v 5 = nI cn) (hcn : cn ≤ 30) (hq1 : 0 < qn) (hq2 : qn ≤ 10) : zM G D vwCl (zT cy) l yX6_dropsIn wsX6_dropsIn rmX6_dropsIn_ok [.ref x9, .int (nI qn)] [(x9, .inr (10, [.int th, .int (nI ch), .int era, .int why, .int det, .int cau, .int (zI sv), .int (zI rj), .ref v9, .ref b9, .ref s9, .ref k9, .ref p9, .ref t9, .ref n9, .int (nI tn), .int (nI he), .int (nI en), .int (nI ln), .int (zI iw), .int (zI dg)])), (v9, .inl (cy 0, 188, .inl v)), (k9, .inl (cy 0, 188, .inl kf))] (some (.int (zcoD v rw cn qn))) [(x9, .inr (10, [.int 0, .int (nI ch), .int era, .int why, .int det, .int cau, .int (zI sv), .int (zI rj), .ref v9, .ref b9, .ref s9, .ref k9, .ref p9, .ref t9, .ref n9, .int (nI tn), .int (nI he), .int (nI en), .int (nI ln), .int (zI iw), .int (zI dg)])), (v9, .inl (cy 0, 188, .inl v)), (k9, .inl (cy 0, 188, .inl v))] := by
  refine zM_of (cc := cX6_dropsIn) (maxL := 2) (ret := (some .int)) (by decide) rfl (Nat.le_of_ble_eq_true rfl) ?_
  intro p e s m below meth c A Q hend hx hb hml hr hts hown hlk hG hK hP hD hA hS ls hl
  have hown : s.vm.findClass RX6 = some m.cls := hown
  have hl : lv_has ls 2 [(0, .ref x9), (1, .int (nI qn))] := hl
  refine lv_aload_n hx hb dX6_dropsIn_0 rfl (lv_at hl 0 rfl) ?_
  refine lv_iload_n hx hb dX6_dropsIn_1 rfl (lv_at hl 1 rfl) ?_
  refine lv_iconst (v := 0) hx hb dX6_dropsIn_2 (by decide) ?_
  refine zcV (As := [.int (nI qn), .int 0]) (rest := []) [0, 1, 2] 0 hg.1 ⟨hx, hb, hml, hown, hts⟩ (c_X6_comes_ok0 hg l D cy x9 th ch era why det cau sv rj v9 b9 s9 k9 p9 t9 n9 tn he en ln iw dg v kf rw cn qn (by first | assumption | omega) (by first | assumption | omega) (by first | assumption | omega) (by first | assumption | omega) (by first | assumption | omega) (by first | assumption | omega)) (cwV 2 hts gX6_dropsIn_X6_comes rfl rfl rfl (by decide +kernel) ⟨Nat.le_of_ble_eq_true rfl, Nat.le_of_ble_eq_true rfl⟩) hG hK hP hD hS hA rfl rfl (Eq.trans (b := [x9, v9, k9]) rfl rfl) rfl rfl rfl hl.1 rfl (Nat.le_of_ble_eq_true rfl) dX6_dropsIn_3 ⟨Nat.zero_le _, Nat.zero_le _⟩ (fun H locs hP hD hS => ?_)
  have hP : va_P D vwCl [(x9, .inr (10, [.int 0, .int (nI ch), .int era, .int why, .int det, .int cau, .int (zI sv), .int (zI rj), .ref v9, .ref b9, .ref s9, .ref k9, .ref p9, .ref t9, .ref n9, .int (nI tn), .int (nI he), .int (nI en), .int (nI ln), .int (zI iw), .int (zI dg)])), (v9, .inl (cy 0, 188, .inl v)), (k9, .inl (cy 0, 188, .inl v))] H := hP
  have hD : va_D A [(x9, .inr (10, [.int 0, .int (nI ch), .int era, .int why, .int det, .int cau, .int (zI sv), .int (zI rj), .ref v9, .ref b9, .ref s9, .ref k9, .ref p9, .ref t9, .ref n9, .int (nI tn), .int (nI he), .int (nI en), .int (nI ln), .int (zI iw), .int (zI dg)])), (v9, .inl (cy 0, 188, .inl v)), (k9, .inl (cy 0, 188, .inl v))] := hD
  exact ziret hend hx hb hr hlk hK hP hD hS dX6_dropsIn_6 rfl rfl

abbrev rmX6_comes_f1 : Room := { frames := 1, cells := 0, slots := 0, locals := 22 }
set_option maxHeartbeats 4000000 in
set_option maxRecDepth 100000 in
theorem c_X6_comes_f1 {G : zG} (hg : zGN G) (l : Launch) (D : va_G) (cy : Nat → ClassId) (x9 : Nat) (th : Int32) (ch : Nat) (era : Int32) (why : Int32) (det : Int32) (cau : Int32) (sv : Bool) (rj : Bool) (v9 : Nat) (b9 : Nat) (s9 : Nat) (k9 : Nat) (p9 : Nat) (t9 : Nat) (n9 : Nat) (tn : Nat) (he : Nat) (en : Nat) (ln : Nat) (iw : Bool) (dg : Bool) (nq : Int32) (bz : Int32) (hq : zic 1 10 nq = false) : zM G D vwCl (zT cy) l yX6_comes wsX6_comes rmX6_comes_f1 [.ref x9, .int nq, .int bz] [(x9, .inr (10, [.int th, .int (nI ch), .int era, .int why, .int det, .int cau, .int (zI sv), .int (zI rj), .ref v9, .ref b9, .ref s9, .ref k9, .ref p9, .ref t9, .ref n9, .int (nI tn), .int (nI he), .int (nI en), .int (nI ln), .int (zI iw), .int (zI dg)]))] (some (.int 0)) [(x9, .inr (10, [.int 1, .int (nI ch), .int era, .int why, .int det, .int cau, .int (zI sv), .int (zI rj), .ref v9, .ref b9, .ref s9, .ref k9, .ref p9, .ref t9, .ref n9, .int (nI tn), .int (nI he), .int (nI en), .int (nI ln), .int (zI iw), .int (zI dg)]))] := by
  refine zM_of (cc := cX6_comes) (maxL := 6) (ret := (some .int)) (by decide) rfl (Nat.le_of_ble_eq_true rfl) ?_
  intro p e s m below meth c A Q hend hx hb hml hr hts hown hlk hG hK hP hD hA hS ls hl
  have hown : s.vm.findClass RX6 = some m.cls := hown
  have in_RX6 : ∀ w ∈ u_ws RX6 TX6 21, w ∈ wsX6_comes := by decide +kernel
  have hl : lv_has ls 6 [(0, .ref x9), (1, .int nq), (2, .int bz)] := hl
  refine lv_aload_n hx hb dX6_comes_0 rfl (lv_at hl 0 rfl) ?_
  refine lv_iload_n hx hb dX6_comes_1 rfl (lv_at hl 1 rfl) ?_
  refine lv_iconst (v := 1) hx hb dX6_comes_2 (by decide) ?_
  refine lv_bipush (v := 10) hx hb dX6_comes_3 (by decide) ?_
  refine zcS (As := [.int nq, .int 1, .int 10]) (rest := [.ref x9]) [] hg.1 ⟨hx, hb, hml, hown, hts⟩ (c_X6_isIn hg l D cy nq 1 10) (va_cwS 3 hts gX6_comes_X6_isIn rfl rfl rfl (by decide +kernel) ⟨Nat.le_of_ble_eq_true rfl, Nat.le_of_ble_eq_true rfl⟩) hG hK hP hD hS hA rfl rfl rfl  rfl hl.1 rfl (Nat.le_of_ble_eq_true rfl) dX6_comes_5 ⟨Nat.zero_le _, Nat.zero_le _⟩ (fun H locs hP hD hS => ?_)
  have hP : va_P D vwCl [(x9, .inr (10, [.int th, .int (nI ch), .int era, .int why, .int det, .int cau, .int (zI sv), .int (zI rj), .ref v9, .ref b9, .ref s9, .ref k9, .ref p9, .ref t9, .ref n9, .int (nI tn), .int (nI he), .int (nI en), .int (nI ln), .int (zI iw), .int (zI dg)]))] H := hP
  have hD : va_D A [(x9, .inr (10, [.int th, .int (nI ch), .int era, .int why, .int det, .int cau, .int (zI sv), .int (zI rj), .ref v9, .ref b9, .ref s9, .ref k9, .ref p9, .ref t9, .ref n9, .int (nI tn), .int (nI he), .int (nI en), .int (nI ln), .int (zI iw), .int (zI dg)]))] := hD
  refine lv_if_eq (tgt := 15) hx hb dX6_comes_8 (by decide) (fun c_1 => ?_) (fun c_1 => ?_)
  · replace c_1 := zI0 c_1
    refine lv_iconst (v := 1) hx hb dX6_comes_15 (by decide) ?_
    refine va_put (D := D) (ci := 10) (v := .int 1) (ty := .int) (C := RX6) (T := TX6) (N := 21) hx hb hts in_RX6 tyX6 tyX6_ok nmX6 hown hK hP hD hS 0 rfl rfl 0 (by decide) (hts _ (List.mem_of_getElem? (i := 1) rfl)) (fun _ h9 => h9) rfl (by decide +kernel) rfl rfl (Nat.le_of_ble_eq_true rfl) dX6_comes_16 (fun H locs hP hD hS => ?_)
    have hP : va_P D vwCl [(x9, .inr (10, [.int 1, .int (nI ch), .int era, .int why, .int det, .int cau, .int (zI sv), .int (zI rj), .ref v9, .ref b9, .ref s9, .ref k9, .ref p9, .ref t9, .ref n9, .int (nI tn), .int (nI he), .int (nI en), .int (nI ln), .int (zI iw), .int (zI dg)]))] H := hP
    have hD : va_D A [(x9, .inr (10, [.int 1, .int (nI ch), .int era, .int why, .int det, .int cau, .int (zI sv), .int (zI rj), .ref v9, .ref b9, .ref s9, .ref k9, .ref p9, .ref t9, .ref n9, .int (nI tn), .int (nI he), .int (nI en), .int (nI ln), .int (zI iw), .int (zI dg)]))] := hD
    refine lv_aload_n hx hb dX6_comes_19 rfl (lv_at hl 0 rfl) ?_
    refine va_get (D := D) (ci := 10) (v := .int 1) (C := RX6) (T := TX6) (N := 21) hx hb hts in_RX6 hown hK hP 0 rfl rfl 0 (by decide) (hts _ (List.mem_of_getElem? (i := 1) rfl)) (fun _ h9 => h9) rfl dX6_comes_20 ?_
    refine lv_if_eq (tgt := 28) hx hb dX6_comes_23 (by decide) (fun c_2 => ?_) (fun c_2 => ?_)
    · exact absurd c_2 (by decide)
    · refine lv_iconst (v := 0) hx hb dX6_comes_26 (by decide) ?_
      exact ziret hend hx hb hr hlk hK hP hD hS dX6_comes_27 rfl rfl
  · replace c_1 := zI1 c_1
    exact absurd (hq.symm.trans c_1) (by decide)

abbrev rmX6_stitchesIn_f1 : Room := { frames := 2, cells := 0, slots := 0, locals := 47 }
set_option maxHeartbeats 4000000 in
set_option maxRecDepth 100000 in
theorem c_X6_stitchesIn_f1 {G : zG} (hg : zGN G) (l : Launch) (D : va_G) (cy : Nat → ClassId) (x9 : Nat) (th : Int32) (ch : Nat) (era : Int32) (why : Int32) (det : Int32) (cau : Int32) (sv : Bool) (rj : Bool) (v9 : Nat) (b9 : Nat) (s9 : Nat) (k9 : Nat) (p9 : Nat) (t9 : Nat) (n9 : Nat) (tn : Nat) (he : Nat) (en : Nat) (ln : Nat) (iw : Bool) (dg : Bool) (nq : Int32) (hq : zic 1 10 nq = false) : zM G D vwCl (zT cy) l yX6_stitchesIn wsX6_stitchesIn rmX6_stitchesIn_f1 [.ref x9, .int nq] [(x9, .inr (10, [.int th, .int (nI ch), .int era, .int why, .int det, .int cau, .int (zI sv), .int (zI rj), .ref v9, .ref b9, .ref s9, .ref k9, .ref p9, .ref t9, .ref n9, .int (nI tn), .int (nI he), .int (nI en), .int (nI ln), .int (zI iw), .int (zI dg)]))] (some (.int 0)) [(x9, .inr (10, [.int 1, .int (nI ch), .int era, .int why, .int det, .int cau, .int (zI sv), .int (zI rj), .ref v9, .ref b9, .ref s9, .ref k9, .ref p9, .ref t9, .ref n9, .int (nI tn), .int (nI he), .int (nI en), .int (nI ln), .int (zI iw), .int (zI dg)]))] := by
  refine zM_of (cc := cX6_stitchesIn) (maxL := 2) (ret := (some .int)) (by decide) rfl (Nat.le_of_ble_eq_true rfl) ?_
  intro p e s m below meth c A Q hend hx hb hml hr hts hown hlk hG hK hP hD hA hS ls hl
  have hown : s.vm.findClass RX6 = some m.cls := hown
  have hl : lv_has ls 2 [(0, .ref x9), (1, .int nq)] := hl
  refine lv_aload_n hx hb dX6_stitchesIn_0 rfl (lv_at hl 0 rfl) ?_
  refine lv_iload_n hx hb dX6_stitchesIn_1 rfl (lv_at hl 1 rfl) ?_
  refine lv_iconst (v := 1) hx hb dX6_stitchesIn_2 (by decide) ?_
  refine zcV (As := [.int nq, .int 1]) (rest := []) [0] 0 hg.1 ⟨hx, hb, hml, hown, hts⟩ (c_X6_comes_f1 hg l D cy x9 th ch era why det cau sv rj v9 b9 s9 k9 p9 t9 n9 tn he en ln iw dg nq 1 (by first | assumption | omega)) (cwV 2 hts gX6_stitchesIn_X6_comes rfl rfl rfl (by decide +kernel) ⟨Nat.le_of_ble_eq_true rfl, Nat.le_of_ble_eq_true rfl⟩) hG hK hP hD hS hA rfl rfl (Eq.trans (b := [x9]) rfl rfl) rfl rfl rfl hl.1 rfl (Nat.le_of_ble_eq_true rfl) dX6_stitchesIn_3 ⟨Nat.zero_le _, Nat.zero_le _⟩ (fun H locs hP hD hS => ?_)
  have hP : va_P D vwCl [(x9, .inr (10, [.int 1, .int (nI ch), .int era, .int why, .int det, .int cau, .int (zI sv), .int (zI rj), .ref v9, .ref b9, .ref s9, .ref k9, .ref p9, .ref t9, .ref n9, .int (nI tn), .int (nI he), .int (nI en), .int (nI ln), .int (zI iw), .int (zI dg)]))] H := hP
  have hD : va_D A [(x9, .inr (10, [.int 1, .int (nI ch), .int era, .int why, .int det, .int cau, .int (zI sv), .int (zI rj), .ref v9, .ref b9, .ref s9, .ref k9, .ref p9, .ref t9, .ref n9, .int (nI tn), .int (nI he), .int (nI en), .int (nI ln), .int (zI iw), .int (zI dg)]))] := hD
  exact ziret hend hx hb hr hlk hK hP hD hS dX6_stitchesIn_6 rfl rfl

abbrev rmX6_dropsIn_f1 : Room := { frames := 2, cells := 0, slots := 0, locals := 47 }
set_option maxHeartbeats 4000000 in
set_option maxRecDepth 100000 in
theorem c_X6_dropsIn_f1 {G : zG} (hg : zGN G) (l : Launch) (D : va_G) (cy : Nat → ClassId) (x9 : Nat) (th : Int32) (ch : Nat) (era : Int32) (why : Int32) (det : Int32) (cau : Int32) (sv : Bool) (rj : Bool) (v9 : Nat) (b9 : Nat) (s9 : Nat) (k9 : Nat) (p9 : Nat) (t9 : Nat) (n9 : Nat) (tn : Nat) (he : Nat) (en : Nat) (ln : Nat) (iw : Bool) (dg : Bool) (nq : Int32) (hq : zic 1 10 nq = false) : zM G D vwCl (zT cy) l yX6_dropsIn wsX6_dropsIn rmX6_dropsIn_f1 [.ref x9, .int nq] [(x9, .inr (10, [.int th, .int (nI ch), .int era, .int why, .int det, .int cau, .int (zI sv), .int (zI rj), .ref v9, .ref b9, .ref s9, .ref k9, .ref p9, .ref t9, .ref n9, .int (nI tn), .int (nI he), .int (nI en), .int (nI ln), .int (zI iw), .int (zI dg)]))] (some (.int 0)) [(x9, .inr (10, [.int 1, .int (nI ch), .int era, .int why, .int det, .int cau, .int (zI sv), .int (zI rj), .ref v9, .ref b9, .ref s9, .ref k9, .ref p9, .ref t9, .ref n9, .int (nI tn), .int (nI he), .int (nI en), .int (nI ln), .int (zI iw), .int (zI dg)]))] := by
  refine zM_of (cc := cX6_dropsIn) (maxL := 2) (ret := (some .int)) (by decide) rfl (Nat.le_of_ble_eq_true rfl) ?_
  intro p e s m below meth c A Q hend hx hb hml hr hts hown hlk hG hK hP hD hA hS ls hl
  have hown : s.vm.findClass RX6 = some m.cls := hown
  have hl : lv_has ls 2 [(0, .ref x9), (1, .int nq)] := hl
  refine lv_aload_n hx hb dX6_dropsIn_0 rfl (lv_at hl 0 rfl) ?_
  refine lv_iload_n hx hb dX6_dropsIn_1 rfl (lv_at hl 1 rfl) ?_
  refine lv_iconst (v := 0) hx hb dX6_dropsIn_2 (by decide) ?_
  refine zcV (As := [.int nq, .int 0]) (rest := []) [0] 0 hg.1 ⟨hx, hb, hml, hown, hts⟩ (c_X6_comes_f1 hg l D cy x9 th ch era why det cau sv rj v9 b9 s9 k9 p9 t9 n9 tn he en ln iw dg nq 0 (by first | assumption | omega)) (cwV 2 hts gX6_dropsIn_X6_comes rfl rfl rfl (by decide +kernel) ⟨Nat.le_of_ble_eq_true rfl, Nat.le_of_ble_eq_true rfl⟩) hG hK hP hD hS hA rfl rfl (Eq.trans (b := [x9]) rfl rfl) rfl rfl rfl hl.1 rfl (Nat.le_of_ble_eq_true rfl) dX6_dropsIn_3 ⟨Nat.zero_le _, Nat.zero_le _⟩ (fun H locs hP hD hS => ?_)
  have hP : va_P D vwCl [(x9, .inr (10, [.int 1, .int (nI ch), .int era, .int why, .int det, .int cau, .int (zI sv), .int (zI rj), .ref v9, .ref b9, .ref s9, .ref k9, .ref p9, .ref t9, .ref n9, .int (nI tn), .int (nI he), .int (nI en), .int (nI ln), .int (zI iw), .int (zI dg)]))] H := hP
  have hD : va_D A [(x9, .inr (10, [.int 1, .int (nI ch), .int era, .int why, .int det, .int cau, .int (zI sv), .int (zI rj), .ref v9, .ref b9, .ref s9, .ref k9, .ref p9, .ref t9, .ref n9, .int (nI tn), .int (nI he), .int (nI en), .int (nI ln), .int (zI iw), .int (zI dg)]))] := hD
  exact ziret hend hx hb hr hlk hK hP hD hS dX6_dropsIn_6 rfl rfl

abbrev rmX6_coursesPossible : Room := { frames := 4, cells := 0, slots := 0, locals := 93 }
set_option maxHeartbeats 4000000 in
set_option maxRecDepth 100000 in
theorem c_X6_coursesPossible {G : zG} (hg : zGN G) (l : Launch) (D : va_G) (cy : Nat → ClassId) (x9 : Nat) (th : Int32) (ch : Nat) (era : Int32) (why : Int32) (det : Int32) (cau : Int32) (sv : Bool) (rj : Bool) (v9 : Nat) (b9 : Nat) (s9 : Nat) (k9 : Nat) (p9 : Nat) (t9 : Nat) (n9 : Nat) (tn : Nat) (he : Nat) (en : Nat) (ln : Nat) (iw : Bool) (dg : Bool) (v : Nat → Int32) (kf : Nat → Int32) (ac : Nat) (rw : Nat) (cn : Nat) (nn : Nat) (hv2 : v 2 = nI ac) (hv4 : v 4 = nI rw) (hv5 : v 5 = nI cn) (hrw : rw ≤ 6) (hac : ac < 4) (hcn : cn ≤ 30) (hcq : cn + nn ≤ 30) (hr0 : ∀ i, i < nn → zrc6 (zkV6 v ac rw cn i) ac rw (cn + i) = 0) (hrj : ¬ zrc6 (zkV6 v ac rw cn nn) ac rw (cn + nn) = 0) : zM G D vwCl (zT cy) l yX6_coursesPossible wsX6_coursesPossible rmX6_coursesPossible [.ref x9] [(x9, .inr (10, [.int th, .int (nI ch), .int era, .int why, .int det, .int cau, .int (zI sv), .int (zI rj), .ref v9, .ref b9, .ref s9, .ref k9, .ref p9, .ref t9, .ref n9, .int (nI tn), .int (nI he), .int (nI en), .int (nI ln), .int (zI iw), .int (zI dg)])), (v9, .inl (cy 0, 188, .inl v)), (k9, .inl (cy 0, 188, .inl kf))] (some (.int (nI nn))) [(x9, .inr (10, [.int 0, .int (nI ch), .int era, .int why, .int det, .int cau, .int (zI sv), .int (zI true), .ref v9, .ref b9, .ref s9, .ref k9, .ref p9, .ref t9, .ref n9, .int (nI tn), .int (nI he), .int (nI en), .int (nI ln), .int (zI iw), .int (zI dg)])), (v9, .inl (cy 0, 188, .inl v)), (k9, .inl (cy 0, 188, .inl v))] := by
  refine zM_of (cc := cX6_coursesPossible) (maxL := 6) (ret := (some .int)) (by decide) rfl (Nat.le_of_ble_eq_true rfl) ?_
  intro p e s m below meth c A Q hend hx hb hml hr hts hown hlk hG hK hP hD hA hS ls hl
  have hown : s.vm.findClass RX6 = some m.cls := hown
  have in_RX6 : ∀ w ∈ u_ws RX6 TX6 21, w ∈ wsX6_coursesPossible := by decide +kernel
  have hl : lv_has ls 6 [(0, .ref x9)] := hl
  refine lv_iconst (v := 0) hx hb dX6_coursesPossible_0 (by decide) ?_
  refine lv_istore_n (lv' := [(1, .int 0), (0, .ref x9)]) hx hb dX6_coursesPossible_1 rfl hl (by decide) rfl (fun ls hl => ?_)
  refine lv_iconst (v := 0) hx hb dX6_coursesPossible_2 (by decide) ?_
  refine lv_istore_n (lv' := [(2, .int 0), (1, .int 0), (0, .ref x9)]) hx hb dX6_coursesPossible_3 rfl hl (by decide) rfl (fun ls hl => ?_)
  refine lv_aload_n hx hb dX6_coursesPossible_4 rfl (lv_at hl 2 rfl) ?_
  refine va_get (D := D) (ci := 10) (v := .int why) (C := RX6) (T := TX6) (N := 21) hx hb hts in_RX6 hown hK hP 0 rfl rfl 3 (by decide) (hts _ (List.mem_of_getElem? (i := 1) rfl)) (fun _ h9 => h9) rfl dX6_coursesPossible_5 ?_
  refine lv_istore_n (lv' := [(3, .int why), (2, .int 0), (1, .int 0), (0, .ref x9)]) hx hb dX6_coursesPossible_8 rfl hl (by decide) rfl (fun ls hl => ?_)
  refine lv_aload_n hx hb dX6_coursesPossible_9 rfl (lv_at hl 3 rfl) ?_
  refine va_get (D := D) (ci := 10) (v := .int det) (C := RX6) (T := TX6) (N := 21) hx hb hts in_RX6 hown hK hP 0 rfl rfl 4 (by decide) (hts _ (List.mem_of_getElem? (i := 2) rfl)) (fun _ h9 => h9) rfl dX6_coursesPossible_10 ?_
  refine lv_istore (lv' := [(4, .int det), (3, .int why), (2, .int 0), (1, .int 0), (0, .ref x9)]) hx hb dX6_coursesPossible_13 hl (by decide) rfl (fun ls hl => ?_)
  refine lv_aload_n hx hb dX6_coursesPossible_15 rfl (lv_at hl 4 rfl) ?_
  refine va_get (D := D) (ci := 10) (v := .int cau) (C := RX6) (T := TX6) (N := 21) hx hb hts in_RX6 hown hK hP 0 rfl rfl 5 (by decide) (hts _ (List.mem_of_getElem? (i := 3) rfl)) (fun _ h9 => h9) rfl dX6_coursesPossible_16 ?_
  refine lv_istore (lv' := [(5, .int cau), (4, .int det), (3, .int why), (2, .int 0), (1, .int 0), (0, .ref x9)]) hx hb dX6_coursesPossible_19 hl (by decide) rfl (fun ls hl => ?_)
  refine lv_aload_n hx hb dX6_coursesPossible_21 rfl (lv_at hl 5 rfl) ?_
  refine va_get (D := D) (ci := 10) (v := .ref k9) (C := RX6) (T := TX6) (N := 21) hx hb hts in_RX6 hown hK hP 0 rfl rfl 11 (by decide) (hts _ (List.mem_of_getElem? (i := 4) rfl)) (fun _ h9 => h9) rfl dX6_coursesPossible_22 ?_
  refine lv_aload_n hx hb dX6_coursesPossible_25 rfl (lv_at hl 5 rfl) ?_
  refine va_get (D := D) (ci := 10) (v := .ref v9) (C := RX6) (T := TX6) (N := 21) hx hb hts in_RX6 hown hK hP 0 rfl rfl 8 (by decide) (hts _ (List.mem_of_getElem? (i := 5) rfl)) (fun _ h9 => h9) rfl dX6_coursesPossible_26 ?_
  refine zcS (As := [.ref k9, .ref v9]) (rest := []) [2, 1] hg.1 ⟨hx, hb, hml, hown, hts⟩ (c_X6_lays hg l D cy k9 v9 kf v) (va_cwS 2 hts gX6_coursesPossible_X6_lays rfl rfl rfl (by decide +kernel) ⟨Nat.le_of_ble_eq_true rfl, Nat.le_of_ble_eq_true rfl⟩) hG hK hP hD hS hA rfl rfl (Eq.trans (b := [k9, v9]) rfl rfl)  rfl hl.1 rfl (Nat.le_of_ble_eq_true rfl) dX6_coursesPossible_29 ⟨Nat.zero_le _, Nat.zero_le _⟩ (fun H locs hP hD hS => ?_)
  have hP : va_P D vwCl [(x9, .inr (10, [.int th, .int (nI ch), .int era, .int why, .int det, .int cau, .int (zI sv), .int (zI rj), .ref v9, .ref b9, .ref s9, .ref k9, .ref p9, .ref t9, .ref n9, .int (nI tn), .int (nI he), .int (nI en), .int (nI ln), .int (zI iw), .int (zI dg)])), (v9, .inl (cy 0, 188, .inl v)), (k9, .inl (cy 0, 188, .inl v))] H := hP
  have hD : va_D A [(x9, .inr (10, [.int th, .int (nI ch), .int era, .int why, .int det, .int cau, .int (zI sv), .int (zI rj), .ref v9, .ref b9, .ref s9, .ref k9, .ref p9, .ref t9, .ref n9, .int (nI tn), .int (nI he), .int (nI en), .int (nI ln), .int (zI iw), .int (zI dg)])), (v9, .inl (cy 0, 188, .inl v)), (k9, .inl (cy 0, 188, .inl v))] := hD
  refine lv_aload_n hx hb dX6_coursesPossible_32 rfl (lv_at hl 5 rfl) ?_
  refine lv_iconst (v := 0) hx hb dX6_coursesPossible_33 (by decide) ?_
  refine va_put (D := D) (ci := 10) (v := .int 0) (ty := .int) (C := RX6) (T := TX6) (N := 21) hx hb hts in_RX6 tyX6 tyX6_ok nmX6 hown hK hP hD hS 0 rfl rfl 0 (by decide) (hts _ (List.mem_of_getElem? (i := 6) rfl)) (fun _ h9 => h9) rfl (by decide +kernel) rfl rfl (Nat.le_of_ble_eq_true rfl) dX6_coursesPossible_34 (fun H locs hP hD hS => ?_)
  have hP : va_P D vwCl [(x9, .inr (10, [.int 0, .int (nI ch), .int era, .int why, .int det, .int cau, .int (zI sv), .int (zI rj), .ref v9, .ref b9, .ref s9, .ref k9, .ref p9, .ref t9, .ref n9, .int (nI tn), .int (nI he), .int (nI en), .int (nI ln), .int (zI iw), .int (zI dg)])), (v9, .inl (cy 0, 188, .inl v)), (k9, .inl (cy 0, 188, .inl v))] H := hP
  have hD : va_D A [(x9, .inr (10, [.int 0, .int (nI ch), .int era, .int why, .int det, .int cau, .int (zI sv), .int (zI rj), .ref v9, .ref b9, .ref s9, .ref k9, .ref p9, .ref t9, .ref n9, .int (nI tn), .int (nI he), .int (nI en), .int (nI ln), .int (zI iw), .int (zI dg)])), (v9, .inl (cy 0, 188, .inl v)), (k9, .inl (cy 0, 188, .inl v))] := hD
  have L37 : ∀ (F : Nat) (k : Nat) (x37_0 : Int32) (x37_1 : Nat → Int32), k ≤ nn → nn - k < F → x37_0 = zkW6 v ac rw cn k → x37_1 = zkV6 v ac rw cn k → ∀ (H : Heap) (locs : List Loc), va_P D vwCl [(x9, .inr (10, [.int 0, .int (nI ch), .int era, .int why, .int det, .int cau, .int (zI sv), .int (zI rj), .ref v9, .ref b9, .ref s9, .ref k9, .ref p9, .ref t9, .ref n9, .int (nI tn), .int (nI he), .int (nI en), .int (nI ln), .int (zI iw), .int (zI dg)])), (v9, .inl (cy 0, 188, .inl x37_1)), (k9, .inl (cy 0, 188, .inl v))] H → va_D A [(x9, .inr (10, [.int 0, .int (nI ch), .int era, .int why, .int det, .int cau, .int (zI sv), .int (zI rj), .ref v9, .ref b9, .ref s9, .ref k9, .ref p9, .ref t9, .ref n9, .int (nI tn), .int (nI he), .int (nI en), .int (nI ln), .int (zI iw), .int (zI dg)])), (v9, .inl (cy 0, 188, .inl x37_1)), (k9, .inl (cy 0, 188, .inl v))] → va_S A s.heap H locs → ∀ ls : Array Slot, lv_has ls 6 [(0, .ref x9), (1, .int (nI k)), (2, .int x37_0), (3, .int why), (4, .int det), (5, .int cau)] → W p l e rmX6_coursesPossible s m ([.ref x9] : List Value).toArray below meth c H locs 0 0 Q (F0 m 37 ls []) := by
    intro F
    induction F with
    | zero =>
      intro k x37_0 x37_1 hk hF ex37_0 ex37_1 H locs hP hD hS ls hl
      exact absurd hF (Nat.not_lt_zero _)
    | succ F ih37 =>
      intro k x37_0 x37_1 hk hF ex37_0 ex37_1 H locs hP hD hS ls hl
      subst ex37_0
      subst ex37_1
      refine lv_aload_n hx hb dX6_coursesPossible_37 rfl (lv_at hl 0 rfl) ?_
      refine va_get (D := D) (ci := 10) (v := .int 0) (C := RX6) (T := TX6) (N := 21) hx hb hts in_RX6 hown hK hP 0 rfl rfl 0 (by decide) (hts _ (List.mem_of_getElem? (i := 6) rfl)) (fun _ h9 => h9) rfl dX6_coursesPossible_38 ?_
      refine lv_if_ne (tgt := 69) hx hb dX6_coursesPossible_41 (by decide) (fun c_1 => ?_) (fun c_1 => ?_)
      · exact absurd c_1 (by decide)
      · refine lv_iload_n hx hb dX6_coursesPossible_44 rfl (lv_at hl 2 rfl) ?_
        refine lv_aload_n hx hb dX6_coursesPossible_45 rfl (lv_at hl 0 rfl) ?_
        by_cases hkj : k < nn
        · refine zcV (As := []) (rest := [.int (zkW6 v ac rw cn k)]) [0, 1] 0 hg.1 ⟨hx, hb, hml, hown, hts⟩ (c_X6_courses_ok hg l D cy x9 0 ch era why det cau sv rj v9 b9 s9 k9 p9 t9 n9 tn he en ln iw dg (zkV6 v ac rw cn k) ac rw (cn + k) (zkV6_2 hv2 hac hrw (k := k) (by omega)) (zkV6_4 hv4 hac hrw (k := k) (by omega)) (zkV6_5 hv5 hac hrw (k := k) (by omega)) (by first | assumption | omega) (by first | assumption | omega) (by first | assumption | omega) (hr0 k hkj)) (cwV 0 hts gX6_coursesPossible_X6_courses rfl rfl rfl (by decide +kernel) ⟨Nat.le_of_ble_eq_true rfl, Nat.le_of_ble_eq_true rfl⟩) hG hK hP hD hS hA rfl rfl (Eq.trans (b := [x9, v9]) rfl rfl) rfl rfl rfl hl.1 rfl (Nat.le_of_ble_eq_true rfl) dX6_coursesPossible_46 ⟨Nat.zero_le _, Nat.zero_le _⟩ (fun H locs hP hD hS => ?_)
          have hP : va_P D vwCl [(x9, .inr (10, [.int 0, .int (nI ch), .int era, .int why, .int det, .int cau, .int (zI sv), .int (zI rj), .ref v9, .ref b9, .ref s9, .ref k9, .ref p9, .ref t9, .ref n9, .int (nI tn), .int (nI he), .int (nI en), .int (nI ln), .int (zI iw), .int (zI dg)])), (v9, .inl (cy 0, 188, .inl (zkcV (zkV6 v ac rw cn k) ac rw (cn + k)))), (k9, .inl (cy 0, 188, .inl v))] H := hP
          have hD : va_D A [(x9, .inr (10, [.int 0, .int (nI ch), .int era, .int why, .int det, .int cau, .int (zI sv), .int (zI rj), .ref v9, .ref b9, .ref s9, .ref k9, .ref p9, .ref t9, .ref n9, .int (nI tn), .int (nI he), .int (nI en), .int (nI ln), .int (zI iw), .int (zI dg)])), (v9, .inl (cy 0, 188, .inl (zkcV (zkV6 v ac rw cn k) ac rw (cn + k)))), (k9, .inl (cy 0, 188, .inl v))] := hD
          refine lv_iadd hx hb dX6_coursesPossible_49 ?_
          refine lv_istore_n (lv' := [(2, .int ((zkW6 v ac rw cn k) + (zwd6 (zkV6 v ac rw cn k) rw (cn + k) 24))), (0, .ref x9), (1, .int (nI k)), (3, .int why), (4, .int det), (5, .int cau)]) hx hb dX6_coursesPossible_50 rfl hl (by decide) rfl (fun ls hl => ?_)
          refine lv_iload_n hx hb dX6_coursesPossible_51 rfl (lv_at hl 2 rfl) ?_
          refine lv_aload_n hx hb dX6_coursesPossible_52 rfl (lv_at hl 1 rfl) ?_
          refine va_get (D := D) (ci := 10) (v := .int 0) (C := RX6) (T := TX6) (N := 21) hx hb hts in_RX6 hown hK hP 0 rfl rfl 0 (by decide) (hts _ (List.mem_of_getElem? (i := 6) rfl)) (fun _ h9 => h9) rfl dX6_coursesPossible_53 ?_
          refine lv_if_ne (tgt := 63) hx hb dX6_coursesPossible_56 (by decide) (fun c_2 => ?_) (fun c_2 => ?_)
          · exact absurd c_2 (by decide)
          · refine lv_iconst (v := 1) hx hb dX6_coursesPossible_59 (by decide) ?_
            refine lv_goto (tgt := 64) hx hb dX6_coursesPossible_60 (by decide) ?_
            refine lv_iadd hx hb dX6_coursesPossible_64 ?_
            refine z_top (y := nI (k + 1)) (nI_add k 1) ?_
            refine lv_istore_n (lv' := [(1, .int (nI (k + 1))), (2, .int ((zkW6 v ac rw cn k) + (zwd6 (zkV6 v ac rw cn k) rw (cn + k) 24))), (0, .ref x9), (3, .int why), (4, .int det), (5, .int cau)]) hx hb dX6_coursesPossible_65 rfl hl (by decide) rfl (fun ls hl => ?_)
            refine lv_goto (tgt := 37) hx hb dX6_coursesPossible_66 (by decide) ?_
            exact ih37 (k + 1) ((zkW6 v ac rw cn k) + (zwd6 (zkV6 v ac rw cn k) rw (cn + k) 24)) (zkcV (zkV6 v ac rw cn k) ac rw (cn + k)) (by omega) (by omega) (by rfl) (by rfl) H locs hP hD hS ls (lv_sub hl [2, 0, 1, 3, 4, 5] rfl)
        · obtain rfl : nn = k := by omega
          refine zcV (As := []) (rest := [.int (zkW6 v ac rw cn nn)]) [0, 1] 0 hg.1 ⟨hx, hb, hml, hown, hts⟩ (c_X6_courses_rej hg l D cy x9 0 ch era why det cau sv rj v9 b9 s9 k9 p9 t9 n9 tn he en ln iw dg (zkV6 v ac rw cn nn) ac rw (cn + nn) (zkV6_2 hv2 hac hrw (k := nn) (by omega)) (zkV6_4 hv4 hac hrw (k := nn) (by omega)) (zkV6_5 hv5 hac hrw (k := nn) (by omega)) (by first | assumption | omega) (by first | assumption | omega) (by first | assumption | omega) hrj) (cwV 0 hts gX6_coursesPossible_X6_courses rfl rfl rfl (by decide +kernel) ⟨Nat.le_of_ble_eq_true rfl, Nat.le_of_ble_eq_true rfl⟩) hG hK hP hD hS hA rfl rfl (Eq.trans (b := [x9, v9]) rfl rfl) rfl rfl rfl hl.1 rfl (Nat.le_of_ble_eq_true rfl) dX6_coursesPossible_46 ⟨Nat.zero_le _, Nat.zero_le _⟩ (fun H locs hP hD hS => ?_)
          have hP : va_P D vwCl [(x9, .inr (10, [.int 2, .int (nI ch), .int era, .int (zrc6 (zkV6 v ac rw cn nn) ac rw (cn + nn)), .int (zdc6 (zkV6 v ac rw cn nn) rw (cn + nn)), .int 0, .int (zI sv), .int (zI true), .ref v9, .ref b9, .ref s9, .ref k9, .ref p9, .ref t9, .ref n9, .int (nI tn), .int (nI he), .int (nI en), .int (nI ln), .int (zI iw), .int (zI dg)])), (v9, .inl (cy 0, 188, .inl (zkV6 v ac rw cn nn))), (k9, .inl (cy 0, 188, .inl v))] H := hP
          have hD : va_D A [(x9, .inr (10, [.int 2, .int (nI ch), .int era, .int (zrc6 (zkV6 v ac rw cn nn) ac rw (cn + nn)), .int (zdc6 (zkV6 v ac rw cn nn) rw (cn + nn)), .int 0, .int (zI sv), .int (zI true), .ref v9, .ref b9, .ref s9, .ref k9, .ref p9, .ref t9, .ref n9, .int (nI tn), .int (nI he), .int (nI en), .int (nI ln), .int (zI iw), .int (zI dg)])), (v9, .inl (cy 0, 188, .inl (zkV6 v ac rw cn nn))), (k9, .inl (cy 0, 188, .inl v))] := hD
          refine lv_iadd hx hb dX6_coursesPossible_49 ?_
          refine lv_istore_n (lv' := [(2, .int ((zkW6 v ac rw cn nn) + 0)), (0, .ref x9), (1, .int (nI nn)), (3, .int why), (4, .int det), (5, .int cau)]) hx hb dX6_coursesPossible_50 rfl hl (by decide) rfl (fun ls hl => ?_)
          refine lv_iload_n hx hb dX6_coursesPossible_51 rfl (lv_at hl 2 rfl) ?_
          refine lv_aload_n hx hb dX6_coursesPossible_52 rfl (lv_at hl 1 rfl) ?_
          refine va_get (D := D) (ci := 10) (v := .int 2) (C := RX6) (T := TX6) (N := 21) hx hb hts in_RX6 hown hK hP 0 rfl rfl 0 (by decide) (hts _ (List.mem_of_getElem? (i := 6) rfl)) (fun _ h9 => h9) rfl dX6_coursesPossible_53 ?_
          refine lv_if_ne (tgt := 63) hx hb dX6_coursesPossible_56 (by decide) (fun c_3 => ?_) (fun c_3 => ?_)
          · refine lv_iconst (v := 0) hx hb dX6_coursesPossible_63 (by decide) ?_
            refine lv_iadd hx hb dX6_coursesPossible_64 ?_
            refine z_top (y := nI (nn + 0)) (nI_add nn 0) ?_
            refine lv_istore_n (lv' := [(1, .int (nI (nn + 0))), (2, .int ((zkW6 v ac rw cn nn) + 0)), (0, .ref x9), (3, .int why), (4, .int det), (5, .int cau)]) hx hb dX6_coursesPossible_65 rfl hl (by decide) rfl (fun ls hl => ?_)
            refine lv_goto (tgt := 37) hx hb dX6_coursesPossible_66 (by decide) ?_
            refine lv_aload_n hx hb dX6_coursesPossible_37 rfl (lv_at hl 2 rfl) ?_
            refine va_get (D := D) (ci := 10) (v := .int 2) (C := RX6) (T := TX6) (N := 21) hx hb hts in_RX6 hown hK hP 0 rfl rfl 0 (by decide) (hts _ (List.mem_of_getElem? (i := 6) rfl)) (fun _ h9 => h9) rfl dX6_coursesPossible_38 ?_
            refine lv_if_ne (tgt := 69) hx hb dX6_coursesPossible_41 (by decide) (fun c_4 => ?_) (fun c_4 => ?_)
            · refine lv_aload_n hx hb dX6_coursesPossible_69 rfl (lv_at hl 2 rfl) ?_
              refine va_get (D := D) (ci := 10) (v := .ref v9) (C := RX6) (T := TX6) (N := 21) hx hb hts in_RX6 hown hK hP 0 rfl rfl 8 (by decide) (hts _ (List.mem_of_getElem? (i := 5) rfl)) (fun _ h9 => h9) rfl dX6_coursesPossible_70 ?_
              refine lv_aload_n hx hb dX6_coursesPossible_73 rfl (lv_at hl 2 rfl) ?_
              refine va_get (D := D) (ci := 10) (v := .ref k9) (C := RX6) (T := TX6) (N := 21) hx hb hts in_RX6 hown hK hP 0 rfl rfl 11 (by decide) (hts _ (List.mem_of_getElem? (i := 4) rfl)) (fun _ h9 => h9) rfl dX6_coursesPossible_74 ?_
              refine zcS (As := [.ref v9, .ref k9]) (rest := []) [1, 2] hg.1 ⟨hx, hb, hml, hown, hts⟩ (c_X6_lays hg l D cy v9 k9 (zkV6 v ac rw cn nn) v) (va_cwS 2 hts gX6_coursesPossible_X6_lays rfl rfl rfl (by decide +kernel) ⟨Nat.le_of_ble_eq_true rfl, Nat.le_of_ble_eq_true rfl⟩) hG hK hP hD hS hA rfl rfl (Eq.trans (b := [v9, k9]) rfl rfl)  rfl hl.1 rfl (Nat.le_of_ble_eq_true rfl) dX6_coursesPossible_77 ⟨Nat.zero_le _, Nat.zero_le _⟩ (fun H locs hP hD hS => ?_)
              have hP : va_P D vwCl [(x9, .inr (10, [.int 2, .int (nI ch), .int era, .int (zrc6 (zkV6 v ac rw cn nn) ac rw (cn + nn)), .int (zdc6 (zkV6 v ac rw cn nn) rw (cn + nn)), .int 0, .int (zI sv), .int (zI true), .ref v9, .ref b9, .ref s9, .ref k9, .ref p9, .ref t9, .ref n9, .int (nI tn), .int (nI he), .int (nI en), .int (nI ln), .int (zI iw), .int (zI dg)])), (v9, .inl (cy 0, 188, .inl v)), (k9, .inl (cy 0, 188, .inl v))] H := hP
              have hD : va_D A [(x9, .inr (10, [.int 2, .int (nI ch), .int era, .int (zrc6 (zkV6 v ac rw cn nn) ac rw (cn + nn)), .int (zdc6 (zkV6 v ac rw cn nn) rw (cn + nn)), .int 0, .int (zI sv), .int (zI true), .ref v9, .ref b9, .ref s9, .ref k9, .ref p9, .ref t9, .ref n9, .int (nI tn), .int (nI he), .int (nI en), .int (nI ln), .int (zI iw), .int (zI dg)])), (v9, .inl (cy 0, 188, .inl v)), (k9, .inl (cy 0, 188, .inl v))] := hD
              refine lv_aload_n hx hb dX6_coursesPossible_80 rfl (lv_at hl 2 rfl) ?_
              refine lv_iload_n hx hb dX6_coursesPossible_81 rfl (lv_at hl 3 rfl) ?_
              refine va_put (D := D) (ci := 10) (v := .int why) (ty := .int) (C := RX6) (T := TX6) (N := 21) hx hb hts in_RX6 tyX6 tyX6_ok nmX6 hown hK hP hD hS 0 rfl rfl 3 (by decide) (hts _ (List.mem_of_getElem? (i := 1) rfl)) (fun _ h9 => h9) rfl (by decide +kernel) rfl rfl (Nat.le_of_ble_eq_true rfl) dX6_coursesPossible_82 (fun H locs hP hD hS => ?_)
              have hP : va_P D vwCl [(x9, .inr (10, [.int 2, .int (nI ch), .int era, .int why, .int (zdc6 (zkV6 v ac rw cn nn) rw (cn + nn)), .int 0, .int (zI sv), .int (zI true), .ref v9, .ref b9, .ref s9, .ref k9, .ref p9, .ref t9, .ref n9, .int (nI tn), .int (nI he), .int (nI en), .int (nI ln), .int (zI iw), .int (zI dg)])), (v9, .inl (cy 0, 188, .inl v)), (k9, .inl (cy 0, 188, .inl v))] H := hP
              have hD : va_D A [(x9, .inr (10, [.int 2, .int (nI ch), .int era, .int why, .int (zdc6 (zkV6 v ac rw cn nn) rw (cn + nn)), .int 0, .int (zI sv), .int (zI true), .ref v9, .ref b9, .ref s9, .ref k9, .ref p9, .ref t9, .ref n9, .int (nI tn), .int (nI he), .int (nI en), .int (nI ln), .int (zI iw), .int (zI dg)])), (v9, .inl (cy 0, 188, .inl v)), (k9, .inl (cy 0, 188, .inl v))] := hD
              refine lv_aload_n hx hb dX6_coursesPossible_85 rfl (lv_at hl 2 rfl) ?_
              refine lv_iload hx hb dX6_coursesPossible_86 (lv_at hl 4 rfl) ?_
              refine va_put (D := D) (ci := 10) (v := .int det) (ty := .int) (C := RX6) (T := TX6) (N := 21) hx hb hts in_RX6 tyX6 tyX6_ok nmX6 hown hK hP hD hS 0 rfl rfl 4 (by decide) (hts _ (List.mem_of_getElem? (i := 2) rfl)) (fun _ h9 => h9) rfl (by decide +kernel) rfl rfl (Nat.le_of_ble_eq_true rfl) dX6_coursesPossible_88 (fun H locs hP hD hS => ?_)
              have hP : va_P D vwCl [(x9, .inr (10, [.int 2, .int (nI ch), .int era, .int why, .int det, .int 0, .int (zI sv), .int (zI true), .ref v9, .ref b9, .ref s9, .ref k9, .ref p9, .ref t9, .ref n9, .int (nI tn), .int (nI he), .int (nI en), .int (nI ln), .int (zI iw), .int (zI dg)])), (v9, .inl (cy 0, 188, .inl v)), (k9, .inl (cy 0, 188, .inl v))] H := hP
              have hD : va_D A [(x9, .inr (10, [.int 2, .int (nI ch), .int era, .int why, .int det, .int 0, .int (zI sv), .int (zI true), .ref v9, .ref b9, .ref s9, .ref k9, .ref p9, .ref t9, .ref n9, .int (nI tn), .int (nI he), .int (nI en), .int (nI ln), .int (zI iw), .int (zI dg)])), (v9, .inl (cy 0, 188, .inl v)), (k9, .inl (cy 0, 188, .inl v))] := hD
              refine lv_aload_n hx hb dX6_coursesPossible_91 rfl (lv_at hl 2 rfl) ?_
              refine lv_iload hx hb dX6_coursesPossible_92 (lv_at hl 5 rfl) ?_
              refine va_put (D := D) (ci := 10) (v := .int cau) (ty := .int) (C := RX6) (T := TX6) (N := 21) hx hb hts in_RX6 tyX6 tyX6_ok nmX6 hown hK hP hD hS 0 rfl rfl 5 (by decide) (hts _ (List.mem_of_getElem? (i := 3) rfl)) (fun _ h9 => h9) rfl (by decide +kernel) rfl rfl (Nat.le_of_ble_eq_true rfl) dX6_coursesPossible_94 (fun H locs hP hD hS => ?_)
              have hP : va_P D vwCl [(x9, .inr (10, [.int 2, .int (nI ch), .int era, .int why, .int det, .int cau, .int (zI sv), .int (zI true), .ref v9, .ref b9, .ref s9, .ref k9, .ref p9, .ref t9, .ref n9, .int (nI tn), .int (nI he), .int (nI en), .int (nI ln), .int (zI iw), .int (zI dg)])), (v9, .inl (cy 0, 188, .inl v)), (k9, .inl (cy 0, 188, .inl v))] H := hP
              have hD : va_D A [(x9, .inr (10, [.int 2, .int (nI ch), .int era, .int why, .int det, .int cau, .int (zI sv), .int (zI true), .ref v9, .ref b9, .ref s9, .ref k9, .ref p9, .ref t9, .ref n9, .int (nI tn), .int (nI he), .int (nI en), .int (nI ln), .int (zI iw), .int (zI dg)])), (v9, .inl (cy 0, 188, .inl v)), (k9, .inl (cy 0, 188, .inl v))] := hD
              refine lv_aload_n hx hb dX6_coursesPossible_97 rfl (lv_at hl 2 rfl) ?_
              refine lv_iconst (v := 0) hx hb dX6_coursesPossible_98 (by decide) ?_
              refine va_put (D := D) (ci := 10) (v := .int 0) (ty := .int) (C := RX6) (T := TX6) (N := 21) hx hb hts in_RX6 tyX6 tyX6_ok nmX6 hown hK hP hD hS 0 rfl rfl 0 (by decide) (hts _ (List.mem_of_getElem? (i := 6) rfl)) (fun _ h9 => h9) rfl (by decide +kernel) rfl rfl (Nat.le_of_ble_eq_true rfl) dX6_coursesPossible_99 (fun H locs hP hD hS => ?_)
              have hP : va_P D vwCl [(x9, .inr (10, [.int 0, .int (nI ch), .int era, .int why, .int det, .int cau, .int (zI sv), .int (zI true), .ref v9, .ref b9, .ref s9, .ref k9, .ref p9, .ref t9, .ref n9, .int (nI tn), .int (nI he), .int (nI en), .int (nI ln), .int (zI iw), .int (zI dg)])), (v9, .inl (cy 0, 188, .inl v)), (k9, .inl (cy 0, 188, .inl v))] H := hP
              have hD : va_D A [(x9, .inr (10, [.int 0, .int (nI ch), .int era, .int why, .int det, .int cau, .int (zI sv), .int (zI true), .ref v9, .ref b9, .ref s9, .ref k9, .ref p9, .ref t9, .ref n9, .int (nI tn), .int (nI he), .int (nI en), .int (nI ln), .int (zI iw), .int (zI dg)])), (v9, .inl (cy 0, 188, .inl v)), (k9, .inl (cy 0, 188, .inl v))] := hD
              refine lv_iload_n hx hb dX6_coursesPossible_102 rfl (lv_at hl 0 rfl) ?_
              exact ziret hend hx hb hr hlk hK hP hD hS dX6_coursesPossible_103 (by rfl) rfl
            · exact absurd c_4 (by decide)
          · exact absurd c_3 (by decide)
  exact L37 (nn - 0 + 1) 0 0 v (Nat.zero_le _) (Nat.lt_succ_self _) (by rfl) (by rfl) H locs hP hD hS ls (lv_sub hl [5, 4, 3, 2, 1, 0] rfl)

abbrev rmX6_meanWidth_ok : Room := { frames := 1, cells := 0, slots := 0, locals := 22 }
set_option maxHeartbeats 4000000 in
set_option maxRecDepth 100000 in
theorem c_X6_meanWidth_ok {G : zG} (hg : zGN G) (l : Launch) (D : va_G) (cy : Nat → ClassId) (x9 : Nat) (th : Int32) (ch : Nat) (era : Int32) (why : Int32) (det : Int32) (cau : Int32) (sv : Bool) (rj : Bool) (v9 : Nat) (b9 : Nat) (s9 : Nat) (k9 : Nat) (p9 : Nat) (t9 : Nat) (n9 : Nat) (tn : Nat) (he : Nat) (en : Nat) (ln : Nat) (iw : Bool) (dg : Bool) (v : Nat → Int32) (cn : Nat) (hv5 : v 5 = nI cn) (hcn : cn ≤ 30) (hc0 : 0 < cn) (hnan : vf_n64 (FP.ddiv (FP.i2d (zsc6 v cn)) (FP.i2d (nI cn)))) : zM G D vwCl (zT cy) l yX6_meanWidth wsX6_meanWidth rmX6_meanWidth_ok [.ref x9] [(x9, .inr (10, [.int th, .int (nI ch), .int era, .int why, .int det, .int cau, .int (zI sv), .int (zI rj), .ref v9, .ref b9, .ref s9, .ref k9, .ref p9, .ref t9, .ref n9, .int (nI tn), .int (nI he), .int (nI en), .int (nI ln), .int (zI iw), .int (zI dg)])), (v9, .inl (cy 0, 188, .inl v))] (some (.double (FP.ddiv (FP.i2d (zsc6 v cn)) (FP.i2d (nI cn))))) [(x9, .inr (10, [.int 0, .int (nI ch), .int era, .int why, .int det, .int cau, .int (zI sv), .int (zI rj), .ref v9, .ref b9, .ref s9, .ref k9, .ref p9, .ref t9, .ref n9, .int (nI tn), .int (nI he), .int (nI en), .int (nI ln), .int (zI iw), .int (zI dg)])), (v9, .inl (cy 0, 188, .inl v))] := by
  refine zM_of (cc := cX6_meanWidth) (maxL := 1) (ret := (some .double)) (by decide) rfl (Nat.le_of_ble_eq_true rfl) ?_
  intro p e s m below meth c A Q hend hx hb hml hr hts hown hlk hG hK hP hD hA hS ls hl
  have hown : s.vm.findClass RX6 = some m.cls := hown
  have in_RX6 : ∀ w ∈ u_ws RX6 TX6 21, w ∈ wsX6_meanWidth := by decide +kernel
  have hl : lv_has ls 1 [(0, .ref x9)] := hl
  refine lv_aload_n hx hb dX6_meanWidth_0 rfl (lv_at hl 0 rfl) ?_
  refine lv_aload_n hx hb dX6_meanWidth_1 rfl (lv_at hl 0 rfl) ?_
  refine va_get (D := D) (ci := 10) (v := .ref v9) (C := RX6) (T := TX6) (N := 21) hx hb hts in_RX6 hown hK hP 0 rfl rfl 8 (by decide) (hts _ (List.mem_of_getElem? (i := 1) rfl)) (fun _ h9 => h9) rfl dX6_meanWidth_2 ?_
  refine lv_iconst (v := 5) hx hb dX6_meanWidth_5 (by decide) ?_
  refine ziald 1 0 5 hx hb hK hP rfl rfl (by omega) (z_lt rfl) dX6_meanWidth_6 ?_
  refine z_top (y := nI cn) (hv5) ?_
  refine lv_if_ne (tgt := 14) hx hb dX6_meanWidth_7 (by decide) (fun c_1 => ?_) (fun c_1 => ?_)
  · refine lv_iconst (v := 0) hx hb dX6_meanWidth_14 (by decide) ?_
    refine va_put (D := D) (ci := 10) (v := .int 0) (ty := .int) (C := RX6) (T := TX6) (N := 21) hx hb hts in_RX6 tyX6 tyX6_ok nmX6 hown hK hP hD hS 0 rfl rfl 0 (by decide) (hts _ (List.mem_of_getElem? (i := 2) rfl)) (fun _ h9 => h9) rfl (by decide +kernel) rfl rfl (Nat.le_of_ble_eq_true rfl) dX6_meanWidth_15 (fun H locs hP hD hS => ?_)
    have hP : va_P D vwCl [(x9, .inr (10, [.int 0, .int (nI ch), .int era, .int why, .int det, .int cau, .int (zI sv), .int (zI rj), .ref v9, .ref b9, .ref s9, .ref k9, .ref p9, .ref t9, .ref n9, .int (nI tn), .int (nI he), .int (nI en), .int (nI ln), .int (zI iw), .int (zI dg)])), (v9, .inl (cy 0, 188, .inl v))] H := hP
    have hD : va_D A [(x9, .inr (10, [.int 0, .int (nI ch), .int era, .int why, .int det, .int cau, .int (zI sv), .int (zI rj), .ref v9, .ref b9, .ref s9, .ref k9, .ref p9, .ref t9, .ref n9, .int (nI tn), .int (nI he), .int (nI en), .int (nI ln), .int (zI iw), .int (zI dg)])), (v9, .inl (cy 0, 188, .inl v))] := hD
    refine lv_aload_n hx hb dX6_meanWidth_18 rfl (lv_at hl 0 rfl) ?_
    refine va_get (D := D) (ci := 10) (v := .int 0) (C := RX6) (T := TX6) (N := 21) hx hb hts in_RX6 hown hK hP 0 rfl rfl 0 (by decide) (hts _ (List.mem_of_getElem? (i := 2) rfl)) (fun _ h9 => h9) rfl dX6_meanWidth_19 ?_
    refine lv_if_ne (tgt := 41) hx hb dX6_meanWidth_22 (by decide) (fun c_2 => ?_) (fun c_2 => ?_)
    · exact absurd c_2 (by decide)
    · refine lv_aload_n hx hb dX6_meanWidth_25 rfl (lv_at hl 0 rfl) ?_
      refine zcV (As := []) (rest := []) [0, 1] 0 hg.1 ⟨hx, hb, hml, hown, hts⟩ (c_X6_stitches hg l D cy x9 0 ch era why det cau sv rj v9 b9 s9 k9 p9 t9 n9 tn he en ln iw dg v cn (by first | assumption | omega) (by first | assumption | omega)) (cwV 0 hts gX6_meanWidth_X6_stitches rfl rfl rfl (by decide +kernel) ⟨Nat.le_of_ble_eq_true rfl, Nat.le_of_ble_eq_true rfl⟩) hG hK hP hD hS hA rfl rfl rfl rfl rfl rfl hl.1 rfl (Nat.le_of_ble_eq_true rfl) dX6_meanWidth_26 ⟨Nat.zero_le _, Nat.zero_le _⟩ (fun H locs hP hD hS => ?_)
      have hP : va_P D vwCl [(x9, .inr (10, [.int 0, .int (nI ch), .int era, .int why, .int det, .int cau, .int (zI sv), .int (zI rj), .ref v9, .ref b9, .ref s9, .ref k9, .ref p9, .ref t9, .ref n9, .int (nI tn), .int (nI he), .int (nI en), .int (nI ln), .int (zI iw), .int (zI dg)])), (v9, .inl (cy 0, 188, .inl v))] H := hP
      have hD : va_D A [(x9, .inr (10, [.int 0, .int (nI ch), .int era, .int why, .int det, .int cau, .int (zI sv), .int (zI rj), .ref v9, .ref b9, .ref s9, .ref k9, .ref p9, .ref t9, .ref n9, .int (nI tn), .int (nI he), .int (nI en), .int (nI ln), .int (zI iw), .int (zI dg)])), (v9, .inl (cy 0, 188, .inl v))] := hD
      refine lv_i2d hx hb dX6_meanWidth_29 ?_
      refine lv_aload_n hx hb dX6_meanWidth_30 rfl (lv_at hl 0 rfl) ?_
      refine va_get (D := D) (ci := 10) (v := .ref v9) (C := RX6) (T := TX6) (N := 21) hx hb hts in_RX6 hown hK hP 0 rfl rfl 8 (by decide) (hts _ (List.mem_of_getElem? (i := 1) rfl)) (fun _ h9 => h9) rfl dX6_meanWidth_31 ?_
      refine lv_iconst (v := 5) hx hb dX6_meanWidth_34 (by decide) ?_
      refine ziald 1 0 5 hx hb hK hP rfl rfl (by omega) (z_lt rfl) dX6_meanWidth_35 ?_
      refine z_top (y := nI cn) (hv5) ?_
      refine lv_i2d hx hb dX6_meanWidth_36 ?_
      refine lv_ddiv hx hb dX6_meanWidth_37 hnan ?_
      refine lv_goto (tgt := 42) hx hb dX6_meanWidth_38 (by decide) ?_
      exact zdret hend hx hb hr hlk hK hP hD hS dX6_meanWidth_42 rfl rfl
  · exact absurd c_1 (nI_ne0 hc0 (by omega))

abbrev rmX6_meanWidth_bad : Room := { frames := 0, cells := 0, slots := 0, locals := 0 }
set_option maxHeartbeats 4000000 in
set_option maxRecDepth 100000 in
theorem c_X6_meanWidth_bad {G : zG} (hg : zGN G) (l : Launch) (D : va_G) (cy : Nat → ClassId) (x9 : Nat) (th : Int32) (ch : Nat) (era : Int32) (why : Int32) (det : Int32) (cau : Int32) (sv : Bool) (rj : Bool) (v9 : Nat) (b9 : Nat) (s9 : Nat) (k9 : Nat) (p9 : Nat) (t9 : Nat) (n9 : Nat) (tn : Nat) (he : Nat) (en : Nat) (ln : Nat) (iw : Bool) (dg : Bool) (v : Nat → Int32) (hc0 : v 5 = 0) : zM G D vwCl (zT cy) l yX6_meanWidth wsX6_meanWidth rmX6_meanWidth_bad [.ref x9] [(x9, .inr (10, [.int th, .int (nI ch), .int era, .int why, .int det, .int cau, .int (zI sv), .int (zI rj), .ref v9, .ref b9, .ref s9, .ref k9, .ref p9, .ref t9, .ref n9, .int (nI tn), .int (nI he), .int (nI en), .int (nI ln), .int (zI iw), .int (zI dg)])), (v9, .inl (cy 0, 188, .inl v))] (some (.double FP.dconst0)) [(x9, .inr (10, [.int 1, .int (nI ch), .int era, .int why, .int det, .int cau, .int (zI sv), .int (zI rj), .ref v9, .ref b9, .ref s9, .ref k9, .ref p9, .ref t9, .ref n9, .int (nI tn), .int (nI he), .int (nI en), .int (nI ln), .int (zI iw), .int (zI dg)])), (v9, .inl (cy 0, 188, .inl v))] := by
  refine zM_of (cc := cX6_meanWidth) (maxL := 1) (ret := (some .double)) (by decide) rfl (Nat.le_of_ble_eq_true rfl) ?_
  intro p e s m below meth c A Q hend hx hb hml hr hts hown hlk hG hK hP hD hA hS ls hl
  have hown : s.vm.findClass RX6 = some m.cls := hown
  have in_RX6 : ∀ w ∈ u_ws RX6 TX6 21, w ∈ wsX6_meanWidth := by decide +kernel
  have hl : lv_has ls 1 [(0, .ref x9)] := hl
  refine lv_aload_n hx hb dX6_meanWidth_0 rfl (lv_at hl 0 rfl) ?_
  refine lv_aload_n hx hb dX6_meanWidth_1 rfl (lv_at hl 0 rfl) ?_
  refine va_get (D := D) (ci := 10) (v := .ref v9) (C := RX6) (T := TX6) (N := 21) hx hb hts in_RX6 hown hK hP 0 rfl rfl 8 (by decide) (hts _ (List.mem_of_getElem? (i := 1) rfl)) (fun _ h9 => h9) rfl dX6_meanWidth_2 ?_
  refine lv_iconst (v := 5) hx hb dX6_meanWidth_5 (by decide) ?_
  refine ziald 1 0 5 hx hb hK hP rfl rfl (by omega) (z_lt rfl) dX6_meanWidth_6 ?_
  refine z_top (y := 0) (hc0) ?_
  refine lv_if_ne (tgt := 14) hx hb dX6_meanWidth_7 (by decide) (fun c_1 => ?_) (fun c_1 => ?_)
  · exact absurd c_1 (by decide)
  · refine lv_iconst (v := 1) hx hb dX6_meanWidth_10 (by decide) ?_
    refine lv_goto (tgt := 15) hx hb dX6_meanWidth_11 (by decide) ?_
    refine va_put (D := D) (ci := 10) (v := .int 1) (ty := .int) (C := RX6) (T := TX6) (N := 21) hx hb hts in_RX6 tyX6 tyX6_ok nmX6 hown hK hP hD hS 0 rfl rfl 0 (by decide) (hts _ (List.mem_of_getElem? (i := 2) rfl)) (fun _ h9 => h9) rfl (by decide +kernel) rfl rfl (Nat.le_of_ble_eq_true rfl) dX6_meanWidth_15 (fun H locs hP hD hS => ?_)
    have hP : va_P D vwCl [(x9, .inr (10, [.int 1, .int (nI ch), .int era, .int why, .int det, .int cau, .int (zI sv), .int (zI rj), .ref v9, .ref b9, .ref s9, .ref k9, .ref p9, .ref t9, .ref n9, .int (nI tn), .int (nI he), .int (nI en), .int (nI ln), .int (zI iw), .int (zI dg)])), (v9, .inl (cy 0, 188, .inl v))] H := hP
    have hD : va_D A [(x9, .inr (10, [.int 1, .int (nI ch), .int era, .int why, .int det, .int cau, .int (zI sv), .int (zI rj), .ref v9, .ref b9, .ref s9, .ref k9, .ref p9, .ref t9, .ref n9, .int (nI tn), .int (nI he), .int (nI en), .int (nI ln), .int (zI iw), .int (zI dg)])), (v9, .inl (cy 0, 188, .inl v))] := hD
    refine lv_aload_n hx hb dX6_meanWidth_18 rfl (lv_at hl 0 rfl) ?_
    refine va_get (D := D) (ci := 10) (v := .int 1) (C := RX6) (T := TX6) (N := 21) hx hb hts in_RX6 hown hK hP 0 rfl rfl 0 (by decide) (hts _ (List.mem_of_getElem? (i := 2) rfl)) (fun _ h9 => h9) rfl dX6_meanWidth_19 ?_
    refine lv_if_ne (tgt := 41) hx hb dX6_meanWidth_22 (by decide) (fun c_2 => ?_) (fun c_2 => ?_)
    · refine lv_dconst0 hx hb dX6_meanWidth_41 ?_
      exact zdret hend hx hb hr hlk hK hP hD hS dX6_meanWidth_42 rfl rfl
    · exact absurd c_2 (by decide)

abbrev rmX6_droppedShare_ok : Room := { frames := 1, cells := 0, slots := 0, locals := 22 }
set_option maxHeartbeats 4000000 in
set_option maxRecDepth 100000 in
theorem c_X6_droppedShare_ok {G : zG} (hg : zGN G) (l : Launch) (D : va_G) (cy : Nat → ClassId) (x9 : Nat) (th : Int32) (ch : Nat) (era : Int32) (why : Int32) (det : Int32) (cau : Int32) (sv : Bool) (rj : Bool) (v9 : Nat) (b9 : Nat) (s9 : Nat) (k9 : Nat) (p9 : Nat) (t9 : Nat) (n9 : Nat) (tn : Nat) (he : Nat) (en : Nat) (ln : Nat) (iw : Bool) (dg : Bool) (v : Nat → Int32) (hsq : zbok 40 (v 0)) (hw0 : ¬ v 0 = 0) (hnan : vf_n32 (FP.fdiv (FP.i2f (zne6 v 24)) (FP.i2f (zbc 40 (v 0) 0)))) : zM G D vwCl (zT cy) l yX6_droppedShare wsX6_droppedShare rmX6_droppedShare_ok [.ref x9] [(x9, .inr (10, [.int th, .int (nI ch), .int era, .int why, .int det, .int cau, .int (zI sv), .int (zI rj), .ref v9, .ref b9, .ref s9, .ref k9, .ref p9, .ref t9, .ref n9, .int (nI tn), .int (nI he), .int (nI en), .int (nI ln), .int (zI iw), .int (zI dg)])), (v9, .inl (cy 0, 188, .inl v))] (some (.float (FP.fdiv (FP.i2f (zne6 v 24)) (FP.i2f (zbc 40 (v 0) 0))))) [(x9, .inr (10, [.int 0, .int (nI ch), .int era, .int why, .int det, .int cau, .int (zI sv), .int (zI rj), .ref v9, .ref b9, .ref s9, .ref k9, .ref p9, .ref t9, .ref n9, .int (nI tn), .int (nI he), .int (nI en), .int (nI ln), .int (zI iw), .int (zI dg)])), (v9, .inl (cy 0, 188, .inl v))] := by
  refine zM_of (cc := cX6_droppedShare) (maxL := 3) (ret := (some .float)) (by decide) rfl (Nat.le_of_ble_eq_true rfl) ?_
  intro p e s m below meth c A Q hend hx hb hml hr hts hown hlk hG hK hP hD hA hS ls hl
  have hown : s.vm.findClass RX6 = some m.cls := hown
  have in_RX6 : ∀ w ∈ u_ws RX6 TX6 21, w ∈ wsX6_droppedShare := by decide +kernel
  have hl : lv_has ls 3 [(0, .ref x9)] := hl
  refine lv_aload_n hx hb dX6_droppedShare_0 rfl (lv_at hl 0 rfl) ?_
  refine lv_aload_n hx hb dX6_droppedShare_1 rfl (lv_at hl 0 rfl) ?_
  refine va_get (D := D) (ci := 10) (v := .ref v9) (C := RX6) (T := TX6) (N := 21) hx hb hts in_RX6 hown hK hP 0 rfl rfl 8 (by decide) (hts _ (List.mem_of_getElem? (i := 1) rfl)) (fun _ h9 => h9) rfl dX6_droppedShare_2 ?_
  refine lv_iconst (v := 0) hx hb dX6_droppedShare_5 (by decide) ?_
  refine ziald 1 0 0 hx hb hK hP rfl rfl (by omega) (z_lt rfl) dX6_droppedShare_6 ?_
  refine lv_if_ne (tgt := 14) hx hb dX6_droppedShare_7 (by decide) (fun c_1 => ?_) (fun c_1 => ?_)
  · refine lv_iconst (v := 0) hx hb dX6_droppedShare_14 (by decide) ?_
    refine va_put (D := D) (ci := 10) (v := .int 0) (ty := .int) (C := RX6) (T := TX6) (N := 21) hx hb hts in_RX6 tyX6 tyX6_ok nmX6 hown hK hP hD hS 0 rfl rfl 0 (by decide) (hts _ (List.mem_of_getElem? (i := 2) rfl)) (fun _ h9 => h9) rfl (by decide +kernel) rfl rfl (Nat.le_of_ble_eq_true rfl) dX6_droppedShare_15 (fun H locs hP hD hS => ?_)
    have hP : va_P D vwCl [(x9, .inr (10, [.int 0, .int (nI ch), .int era, .int why, .int det, .int cau, .int (zI sv), .int (zI rj), .ref v9, .ref b9, .ref s9, .ref k9, .ref p9, .ref t9, .ref n9, .int (nI tn), .int (nI he), .int (nI en), .int (nI ln), .int (zI iw), .int (zI dg)])), (v9, .inl (cy 0, 188, .inl v))] H := hP
    have hD : va_D A [(x9, .inr (10, [.int 0, .int (nI ch), .int era, .int why, .int det, .int cau, .int (zI sv), .int (zI rj), .ref v9, .ref b9, .ref s9, .ref k9, .ref p9, .ref t9, .ref n9, .int (nI tn), .int (nI he), .int (nI en), .int (nI ln), .int (zI iw), .int (zI dg)])), (v9, .inl (cy 0, 188, .inl v))] := hD
    refine lv_iconst (v := 0) hx hb dX6_droppedShare_18 (by decide) ?_
    refine lv_istore_n (lv' := [(1, .int 0), (0, .ref x9)]) hx hb dX6_droppedShare_19 rfl hl (by decide) rfl (fun ls hl => ?_)
    refine lv_iconst (v := 0) hx hb dX6_droppedShare_20 (by decide) ?_
    refine lv_istore_n (lv' := [(2, .int 0), (1, .int 0), (0, .ref x9)]) hx hb dX6_droppedShare_21 rfl hl (by decide) rfl (fun ls hl => ?_)
    have L22 : ∀ (F : Nat) (k : Nat) (x22_0 : Int32), k ≤ 24 → 24 - k < F → x22_0 = zne6 v k → ∀ (H : Heap) (locs : List Loc), va_P D vwCl [(x9, .inr (10, [.int 0, .int (nI ch), .int era, .int why, .int det, .int cau, .int (zI sv), .int (zI rj), .ref v9, .ref b9, .ref s9, .ref k9, .ref p9, .ref t9, .ref n9, .int (nI tn), .int (nI he), .int (nI en), .int (nI ln), .int (zI iw), .int (zI dg)])), (v9, .inl (cy 0, 188, .inl v))] H → va_D A [(x9, .inr (10, [.int 0, .int (nI ch), .int era, .int why, .int det, .int cau, .int (zI sv), .int (zI rj), .ref v9, .ref b9, .ref s9, .ref k9, .ref p9, .ref t9, .ref n9, .int (nI tn), .int (nI he), .int (nI en), .int (nI ln), .int (zI iw), .int (zI dg)])), (v9, .inl (cy 0, 188, .inl v))] → va_S A s.heap H locs → ∀ ls : Array Slot, lv_has ls 3 [(0, .ref x9), (1, .int x22_0), (2, .int (nI k))] → W p l e rmX6_droppedShare_ok s m ([.ref x9] : List Value).toArray below meth c H locs 0 0 Q (F0 m 22 ls []) := by
      intro F
      induction F with
      | zero =>
        intro k x22_0 hk hF ex22_0 H locs hP hD hS ls hl
        exact absurd hF (Nat.not_lt_zero _)
      | succ F ih22 =>
        intro k x22_0 hk hF ex22_0 H locs hP hD hS ls hl
        subst ex22_0
        refine lv_iload_n hx hb dX6_droppedShare_22 rfl (lv_at hl 2 rfl) ?_
        refine lv_bipush (v := 24) hx hb dX6_droppedShare_23 (by decide) ?_
        refine lv_icmp_ge (tgt := 62) hx hb dX6_droppedShare_25 (by decide) (fun c_2 => ?_) (fun c_2 => ?_)
        · have hk2 : 24 ≤ k := (nI_leI (by omega) (by omega)).mp c_2
          obtain rfl : 24 = k := by omega
          refine lv_aload_n hx hb dX6_droppedShare_62 rfl (lv_at hl 0 rfl) ?_
          refine va_get (D := D) (ci := 10) (v := .int 0) (C := RX6) (T := TX6) (N := 21) hx hb hts in_RX6 hown hK hP 0 rfl rfl 0 (by decide) (hts _ (List.mem_of_getElem? (i := 2) rfl)) (fun _ h9 => h9) rfl dX6_droppedShare_63 ?_
          refine lv_if_ne (tgt := 85) hx hb dX6_droppedShare_66 (by decide) (fun c_3 => ?_) (fun c_3 => ?_)
          · exact absurd c_3 (by decide)
          · refine lv_iload_n hx hb dX6_droppedShare_69 rfl (lv_at hl 1 rfl) ?_
            refine lv_i2f hx hb dX6_droppedShare_70 ?_
            refine lv_aload_n hx hb dX6_droppedShare_71 rfl (lv_at hl 0 rfl) ?_
            refine va_get (D := D) (ci := 10) (v := .ref v9) (C := RX6) (T := TX6) (N := 21) hx hb hts in_RX6 hown hK hP 0 rfl rfl 8 (by decide) (hts _ (List.mem_of_getElem? (i := 1) rfl)) (fun _ h9 => h9) rfl dX6_droppedShare_72 ?_
            refine lv_iconst (v := 0) hx hb dX6_droppedShare_75 (by decide) ?_
            refine ziald 1 0 0 hx hb hK hP rfl rfl (by omega) (z_lt rfl) dX6_droppedShare_76 ?_
            refine zcS (As := [.int (v 0)]) (rest := [.float (FP.i2f (zne6 v 24))]) [] hg.1 ⟨hx, hb, hml, hown, hts⟩ (c_X6_bits hg l D cy (v 0) (by first | assumption | omega)) (va_cwS 1 hts gX6_droppedShare_X6_bits rfl rfl rfl (by decide +kernel) ⟨Nat.le_of_ble_eq_true rfl, Nat.le_of_ble_eq_true rfl⟩) hG hK hP hD hS hA rfl rfl rfl  rfl hl.1 rfl (Nat.le_of_ble_eq_true rfl) dX6_droppedShare_77 ⟨Nat.zero_le _, Nat.zero_le _⟩ (fun H locs hP hD hS => ?_)
            have hP : va_P D vwCl [(x9, .inr (10, [.int 0, .int (nI ch), .int era, .int why, .int det, .int cau, .int (zI sv), .int (zI rj), .ref v9, .ref b9, .ref s9, .ref k9, .ref p9, .ref t9, .ref n9, .int (nI tn), .int (nI he), .int (nI en), .int (nI ln), .int (zI iw), .int (zI dg)])), (v9, .inl (cy 0, 188, .inl v))] H := hP
            have hD : va_D A [(x9, .inr (10, [.int 0, .int (nI ch), .int era, .int why, .int det, .int cau, .int (zI sv), .int (zI rj), .ref v9, .ref b9, .ref s9, .ref k9, .ref p9, .ref t9, .ref n9, .int (nI tn), .int (nI he), .int (nI en), .int (nI ln), .int (zI iw), .int (zI dg)])), (v9, .inl (cy 0, 188, .inl v))] := hD
            refine lv_i2f hx hb dX6_droppedShare_80 ?_
            refine lv_fdiv hx hb dX6_droppedShare_81 hnan ?_
            refine lv_goto (tgt := 86) hx hb dX6_droppedShare_82 (by decide) ?_
            exact zfret hend hx hb hr hlk hK hP hD hS dX6_droppedShare_86 rfl rfl
        · have hk2 : k < 24 := Nat.lt_of_not_le (fun z => c_2 (nI_le z (by omega)))
          refine lv_iload_n hx hb dX6_droppedShare_28 rfl (lv_at hl 1 rfl) ?_
          refine lv_aload_n hx hb dX6_droppedShare_29 rfl (lv_at hl 0 rfl) ?_
          refine lv_iload_n hx hb dX6_droppedShare_30 rfl (lv_at hl 2 rfl) ?_
          refine zcV (As := [.int (nI k)]) (rest := [.int (zne6 v k)]) [0, 1] 0 hg.1 ⟨hx, hb, hml, hown, hts⟩ (c_X6_isOn hg l D cy x9 0 ch era why det cau sv rj v9 b9 s9 k9 p9 t9 n9 tn he en ln iw dg v (nI k)) (cwV 1 hts gX6_droppedShare_X6_isOn rfl rfl rfl (by decide +kernel) ⟨Nat.le_of_ble_eq_true rfl, Nat.le_of_ble_eq_true rfl⟩) hG hK hP hD hS hA rfl rfl rfl rfl rfl rfl hl.1 rfl (Nat.le_of_ble_eq_true rfl) dX6_droppedShare_31 ⟨Nat.zero_le _, Nat.zero_le _⟩ (fun H locs hP hD hS => ?_)
          have hP : va_P D vwCl [(x9, .inr (10, [.int 0, .int (nI ch), .int era, .int why, .int det, .int cau, .int (zI sv), .int (zI rj), .ref v9, .ref b9, .ref s9, .ref k9, .ref p9, .ref t9, .ref n9, .int (nI tn), .int (nI he), .int (nI en), .int (nI ln), .int (zI iw), .int (zI dg)])), (v9, .inl (cy 0, 188, .inl v))] H := hP
          have hD : va_D A [(x9, .inr (10, [.int 0, .int (nI ch), .int era, .int why, .int det, .int cau, .int (zI sv), .int (zI rj), .ref v9, .ref b9, .ref s9, .ref k9, .ref p9, .ref t9, .ref n9, .int (nI tn), .int (nI he), .int (nI en), .int (nI ln), .int (zI iw), .int (zI dg)])), (v9, .inl (cy 0, 188, .inl v))] := hD
          refine lv_if_eq (tgt := 53) hx hb dX6_droppedShare_34 (by decide) (fun c_4 => ?_) (fun c_4 => ?_)
          · replace c_4 := zI0 c_4
            refine lv_iconst (v := 0) hx hb dX6_droppedShare_53 (by decide) ?_
            refine lv_iadd hx hb dX6_droppedShare_54 ?_
            refine lv_istore_n (lv' := [(1, .int ((zne6 v k) + 0)), (0, .ref x9), (2, .int (nI k))]) hx hb dX6_droppedShare_55 rfl hl (by decide) rfl (fun ls hl => ?_)
            refine lv_iinc (v := nI (k + 1)) (lv' := [(2, .int (nI (k + 1))), (1, .int ((zne6 v k) + 0)), (0, .ref x9)]) hx hb dX6_droppedShare_56 hl (k := 2) rfl (by rw [show Int32.ofInt 1 = nI 1 from rfl, nI_add]) (by decide) rfl (fun ls hl => ?_)
            refine lv_goto (tgt := 22) hx hb dX6_droppedShare_59 (by decide) ?_
            exact ih22 (k + 1) ((zne6 v k) + 0) (by omega) (by omega) (by first | (simp only [zne6, Int32.add_zero, c_2, c_4, decide_true, decide_false, Bool.not_true, Bool.not_false, Bool.and_true, Bool.true_and, Bool.and_false, Bool.false_and, Bool.or_false, Bool.false_or, Bool.or_true, Bool.true_or, ↓reduceIte, Bool.false_eq_true, not_true_eq_false, not_false_eq_true, and_self]; done) | (simp [zne6, Int32.add_zero, c_2, c_4]; done) | (simp_all [zne6, Int32.add_zero]; done)) H locs hP hD hS ls (lv_sub hl [2, 1, 0] rfl)
          · replace c_4 := zI1 c_4
            refine lv_aload_n hx hb dX6_droppedShare_37 rfl (lv_at hl 0 rfl) ?_
            refine va_get (D := D) (ci := 10) (v := .ref v9) (C := RX6) (T := TX6) (N := 21) hx hb hts in_RX6 hown hK hP 0 rfl rfl 8 (by decide) (hts _ (List.mem_of_getElem? (i := 1) rfl)) (fun _ h9 => h9) rfl dX6_droppedShare_38 ?_
            refine lv_bipush (v := 10) hx hb dX6_droppedShare_41 (by decide) ?_
            refine lv_iload_n hx hb dX6_droppedShare_43 rfl (lv_at hl 2 rfl) ?_
            refine lv_iadd hx hb dX6_droppedShare_44 ?_
            refine z_top (y := nI (10 + k)) (nI_add 10 k) ?_
            refine ziald 1 0 (10 + k) hx hb hK hP rfl rfl (by omega) (z_lt rfl) dX6_droppedShare_45 ?_
            refine lv_if_ne (tgt := 53) hx hb dX6_droppedShare_46 (by decide) (fun c_5 => ?_) (fun c_5 => ?_)
            · refine lv_iconst (v := 0) hx hb dX6_droppedShare_53 (by decide) ?_
              refine lv_iadd hx hb dX6_droppedShare_54 ?_
              refine lv_istore_n (lv' := [(1, .int ((zne6 v k) + 0)), (0, .ref x9), (2, .int (nI k))]) hx hb dX6_droppedShare_55 rfl hl (by decide) rfl (fun ls hl => ?_)
              refine lv_iinc (v := nI (k + 1)) (lv' := [(2, .int (nI (k + 1))), (1, .int ((zne6 v k) + 0)), (0, .ref x9)]) hx hb dX6_droppedShare_56 hl (k := 2) rfl (by rw [show Int32.ofInt 1 = nI 1 from rfl, nI_add]) (by decide) rfl (fun ls hl => ?_)
              refine lv_goto (tgt := 22) hx hb dX6_droppedShare_59 (by decide) ?_
              exact ih22 (k + 1) ((zne6 v k) + 0) (by omega) (by omega) (by first | (simp only [zne6, Int32.add_zero, c_2, c_4, c_5, decide_true, decide_false, Bool.not_true, Bool.not_false, Bool.and_true, Bool.true_and, Bool.and_false, Bool.false_and, Bool.or_false, Bool.false_or, Bool.or_true, Bool.true_or, ↓reduceIte, Bool.false_eq_true, not_true_eq_false, not_false_eq_true, and_self]; done) | (simp [zne6, Int32.add_zero, c_2, c_4, c_5]; done) | (simp_all [zne6, Int32.add_zero]; done)) H locs hP hD hS ls (lv_sub hl [2, 1, 0] rfl)
            · refine lv_iconst (v := 1) hx hb dX6_droppedShare_49 (by decide) ?_
              refine lv_goto (tgt := 54) hx hb dX6_droppedShare_50 (by decide) ?_
              refine lv_iadd hx hb dX6_droppedShare_54 ?_
              refine lv_istore_n (lv' := [(1, .int ((zne6 v k) + 1)), (0, .ref x9), (2, .int (nI k))]) hx hb dX6_droppedShare_55 rfl hl (by decide) rfl (fun ls hl => ?_)
              refine lv_iinc (v := nI (k + 1)) (lv' := [(2, .int (nI (k + 1))), (1, .int ((zne6 v k) + 1)), (0, .ref x9)]) hx hb dX6_droppedShare_56 hl (k := 2) rfl (by rw [show Int32.ofInt 1 = nI 1 from rfl, nI_add]) (by decide) rfl (fun ls hl => ?_)
              refine lv_goto (tgt := 22) hx hb dX6_droppedShare_59 (by decide) ?_
              exact ih22 (k + 1) ((zne6 v k) + 1) (by omega) (by omega) (by first | (simp only [zne6, Int32.add_zero, c_2, c_4, c_5, decide_true, decide_false, Bool.not_true, Bool.not_false, Bool.and_true, Bool.true_and, Bool.and_false, Bool.false_and, Bool.or_false, Bool.false_or, Bool.or_true, Bool.true_or, ↓reduceIte, Bool.false_eq_true, not_true_eq_false, not_false_eq_true, and_self]; done) | (simp [zne6, Int32.add_zero, c_2, c_4, c_5]; done) | (simp_all [zne6, Int32.add_zero]; done)) H locs hP hD hS ls (lv_sub hl [2, 1, 0] rfl)
    exact L22 (24 - 0 + 1) 0 0 (by omega) (Nat.lt_succ_self _) (by rfl) H locs hP hD hS ls (lv_sub hl [2, 1, 0] rfl)
  · exact absurd c_1 hw0

abbrev rmX6_droppedShare_bad : Room := { frames := 1, cells := 0, slots := 0, locals := 21 }
set_option maxHeartbeats 4000000 in
set_option maxRecDepth 100000 in
theorem c_X6_droppedShare_bad {G : zG} (hg : zGN G) (l : Launch) (D : va_G) (cy : Nat → ClassId) (x9 : Nat) (th : Int32) (ch : Nat) (era : Int32) (why : Int32) (det : Int32) (cau : Int32) (sv : Bool) (rj : Bool) (v9 : Nat) (b9 : Nat) (s9 : Nat) (k9 : Nat) (p9 : Nat) (t9 : Nat) (n9 : Nat) (tn : Nat) (he : Nat) (en : Nat) (ln : Nat) (iw : Bool) (dg : Bool) (v : Nat → Int32) (hw0 : v 0 = 0) : zM G D vwCl (zT cy) l yX6_droppedShare wsX6_droppedShare rmX6_droppedShare_bad [.ref x9] [(x9, .inr (10, [.int th, .int (nI ch), .int era, .int why, .int det, .int cau, .int (zI sv), .int (zI rj), .ref v9, .ref b9, .ref s9, .ref k9, .ref p9, .ref t9, .ref n9, .int (nI tn), .int (nI he), .int (nI en), .int (nI ln), .int (zI iw), .int (zI dg)])), (v9, .inl (cy 0, 188, .inl v))] (some (.float FP.fconst0)) [(x9, .inr (10, [.int 1, .int (nI ch), .int era, .int why, .int det, .int cau, .int (zI sv), .int (zI rj), .ref v9, .ref b9, .ref s9, .ref k9, .ref p9, .ref t9, .ref n9, .int (nI tn), .int (nI he), .int (nI en), .int (nI ln), .int (zI iw), .int (zI dg)])), (v9, .inl (cy 0, 188, .inl v))] := by
  refine zM_of (cc := cX6_droppedShare) (maxL := 3) (ret := (some .float)) (by decide) rfl (Nat.le_of_ble_eq_true rfl) ?_
  intro p e s m below meth c A Q hend hx hb hml hr hts hown hlk hG hK hP hD hA hS ls hl
  have hown : s.vm.findClass RX6 = some m.cls := hown
  have in_RX6 : ∀ w ∈ u_ws RX6 TX6 21, w ∈ wsX6_droppedShare := by decide +kernel
  have hl : lv_has ls 3 [(0, .ref x9)] := hl
  refine lv_aload_n hx hb dX6_droppedShare_0 rfl (lv_at hl 0 rfl) ?_
  refine lv_aload_n hx hb dX6_droppedShare_1 rfl (lv_at hl 0 rfl) ?_
  refine va_get (D := D) (ci := 10) (v := .ref v9) (C := RX6) (T := TX6) (N := 21) hx hb hts in_RX6 hown hK hP 0 rfl rfl 8 (by decide) (hts _ (List.mem_of_getElem? (i := 1) rfl)) (fun _ h9 => h9) rfl dX6_droppedShare_2 ?_
  refine lv_iconst (v := 0) hx hb dX6_droppedShare_5 (by decide) ?_
  refine ziald 1 0 0 hx hb hK hP rfl rfl (by omega) (z_lt rfl) dX6_droppedShare_6 ?_
  refine lv_if_ne (tgt := 14) hx hb dX6_droppedShare_7 (by decide) (fun c_1 => ?_) (fun c_1 => ?_)
  · exact absurd hw0 c_1
  · refine lv_iconst (v := 1) hx hb dX6_droppedShare_10 (by decide) ?_
    refine lv_goto (tgt := 15) hx hb dX6_droppedShare_11 (by decide) ?_
    refine va_put (D := D) (ci := 10) (v := .int 1) (ty := .int) (C := RX6) (T := TX6) (N := 21) hx hb hts in_RX6 tyX6 tyX6_ok nmX6 hown hK hP hD hS 0 rfl rfl 0 (by decide) (hts _ (List.mem_of_getElem? (i := 2) rfl)) (fun _ h9 => h9) rfl (by decide +kernel) rfl rfl (Nat.le_of_ble_eq_true rfl) dX6_droppedShare_15 (fun H locs hP hD hS => ?_)
    have hP : va_P D vwCl [(x9, .inr (10, [.int 1, .int (nI ch), .int era, .int why, .int det, .int cau, .int (zI sv), .int (zI rj), .ref v9, .ref b9, .ref s9, .ref k9, .ref p9, .ref t9, .ref n9, .int (nI tn), .int (nI he), .int (nI en), .int (nI ln), .int (zI iw), .int (zI dg)])), (v9, .inl (cy 0, 188, .inl v))] H := hP
    have hD : va_D A [(x9, .inr (10, [.int 1, .int (nI ch), .int era, .int why, .int det, .int cau, .int (zI sv), .int (zI rj), .ref v9, .ref b9, .ref s9, .ref k9, .ref p9, .ref t9, .ref n9, .int (nI tn), .int (nI he), .int (nI en), .int (nI ln), .int (zI iw), .int (zI dg)])), (v9, .inl (cy 0, 188, .inl v))] := hD
    refine lv_iconst (v := 0) hx hb dX6_droppedShare_18 (by decide) ?_
    refine lv_istore_n (lv' := [(1, .int 0), (0, .ref x9)]) hx hb dX6_droppedShare_19 rfl hl (by decide) rfl (fun ls hl => ?_)
    refine lv_iconst (v := 0) hx hb dX6_droppedShare_20 (by decide) ?_
    refine lv_istore_n (lv' := [(2, .int 0), (1, .int 0), (0, .ref x9)]) hx hb dX6_droppedShare_21 rfl hl (by decide) rfl (fun ls hl => ?_)
    have L22 : ∀ (F : Nat) (k : Nat) (x22_0 : Int32), k ≤ 24 → 24 - k < F → x22_0 = zne6 v k → ∀ (H : Heap) (locs : List Loc), va_P D vwCl [(x9, .inr (10, [.int 1, .int (nI ch), .int era, .int why, .int det, .int cau, .int (zI sv), .int (zI rj), .ref v9, .ref b9, .ref s9, .ref k9, .ref p9, .ref t9, .ref n9, .int (nI tn), .int (nI he), .int (nI en), .int (nI ln), .int (zI iw), .int (zI dg)])), (v9, .inl (cy 0, 188, .inl v))] H → va_D A [(x9, .inr (10, [.int 1, .int (nI ch), .int era, .int why, .int det, .int cau, .int (zI sv), .int (zI rj), .ref v9, .ref b9, .ref s9, .ref k9, .ref p9, .ref t9, .ref n9, .int (nI tn), .int (nI he), .int (nI en), .int (nI ln), .int (zI iw), .int (zI dg)])), (v9, .inl (cy 0, 188, .inl v))] → va_S A s.heap H locs → ∀ ls : Array Slot, lv_has ls 3 [(0, .ref x9), (1, .int x22_0), (2, .int (nI k))] → W p l e rmX6_droppedShare_bad s m ([.ref x9] : List Value).toArray below meth c H locs 0 0 Q (F0 m 22 ls []) := by
      intro F
      induction F with
      | zero =>
        intro k x22_0 hk hF ex22_0 H locs hP hD hS ls hl
        exact absurd hF (Nat.not_lt_zero _)
      | succ F ih22 =>
        intro k x22_0 hk hF ex22_0 H locs hP hD hS ls hl
        subst ex22_0
        refine lv_iload_n hx hb dX6_droppedShare_22 rfl (lv_at hl 2 rfl) ?_
        refine lv_bipush (v := 24) hx hb dX6_droppedShare_23 (by decide) ?_
        refine lv_icmp_ge (tgt := 62) hx hb dX6_droppedShare_25 (by decide) (fun c_2 => ?_) (fun c_2 => ?_)
        · have hk2 : 24 ≤ k := (nI_leI (by omega) (by omega)).mp c_2
          obtain rfl : 24 = k := by omega
          refine lv_aload_n hx hb dX6_droppedShare_62 rfl (lv_at hl 0 rfl) ?_
          refine va_get (D := D) (ci := 10) (v := .int 1) (C := RX6) (T := TX6) (N := 21) hx hb hts in_RX6 hown hK hP 0 rfl rfl 0 (by decide) (hts _ (List.mem_of_getElem? (i := 2) rfl)) (fun _ h9 => h9) rfl dX6_droppedShare_63 ?_
          refine lv_if_ne (tgt := 85) hx hb dX6_droppedShare_66 (by decide) (fun c_3 => ?_) (fun c_3 => ?_)
          · refine lv_fconst0 hx hb dX6_droppedShare_85 ?_
            exact zfret hend hx hb hr hlk hK hP hD hS dX6_droppedShare_86 rfl rfl
          · exact absurd c_3 (by decide)
        · have hk2 : k < 24 := Nat.lt_of_not_le (fun z => c_2 (nI_le z (by omega)))
          refine lv_iload_n hx hb dX6_droppedShare_28 rfl (lv_at hl 1 rfl) ?_
          refine lv_aload_n hx hb dX6_droppedShare_29 rfl (lv_at hl 0 rfl) ?_
          refine lv_iload_n hx hb dX6_droppedShare_30 rfl (lv_at hl 2 rfl) ?_
          refine zcV (As := [.int (nI k)]) (rest := [.int (zne6 v k)]) [0, 1] 0 hg.1 ⟨hx, hb, hml, hown, hts⟩ (c_X6_isOn hg l D cy x9 1 ch era why det cau sv rj v9 b9 s9 k9 p9 t9 n9 tn he en ln iw dg v (nI k)) (cwV 1 hts gX6_droppedShare_X6_isOn rfl rfl rfl (by decide +kernel) ⟨Nat.le_of_ble_eq_true rfl, Nat.le_of_ble_eq_true rfl⟩) hG hK hP hD hS hA rfl rfl rfl rfl rfl rfl hl.1 rfl (Nat.le_of_ble_eq_true rfl) dX6_droppedShare_31 ⟨Nat.zero_le _, Nat.zero_le _⟩ (fun H locs hP hD hS => ?_)
          have hP : va_P D vwCl [(x9, .inr (10, [.int 1, .int (nI ch), .int era, .int why, .int det, .int cau, .int (zI sv), .int (zI rj), .ref v9, .ref b9, .ref s9, .ref k9, .ref p9, .ref t9, .ref n9, .int (nI tn), .int (nI he), .int (nI en), .int (nI ln), .int (zI iw), .int (zI dg)])), (v9, .inl (cy 0, 188, .inl v))] H := hP
          have hD : va_D A [(x9, .inr (10, [.int 1, .int (nI ch), .int era, .int why, .int det, .int cau, .int (zI sv), .int (zI rj), .ref v9, .ref b9, .ref s9, .ref k9, .ref p9, .ref t9, .ref n9, .int (nI tn), .int (nI he), .int (nI en), .int (nI ln), .int (zI iw), .int (zI dg)])), (v9, .inl (cy 0, 188, .inl v))] := hD
          refine lv_if_eq (tgt := 53) hx hb dX6_droppedShare_34 (by decide) (fun c_4 => ?_) (fun c_4 => ?_)
          · replace c_4 := zI0 c_4
            refine lv_iconst (v := 0) hx hb dX6_droppedShare_53 (by decide) ?_
            refine lv_iadd hx hb dX6_droppedShare_54 ?_
            refine lv_istore_n (lv' := [(1, .int ((zne6 v k) + 0)), (0, .ref x9), (2, .int (nI k))]) hx hb dX6_droppedShare_55 rfl hl (by decide) rfl (fun ls hl => ?_)
            refine lv_iinc (v := nI (k + 1)) (lv' := [(2, .int (nI (k + 1))), (1, .int ((zne6 v k) + 0)), (0, .ref x9)]) hx hb dX6_droppedShare_56 hl (k := 2) rfl (by rw [show Int32.ofInt 1 = nI 1 from rfl, nI_add]) (by decide) rfl (fun ls hl => ?_)
            refine lv_goto (tgt := 22) hx hb dX6_droppedShare_59 (by decide) ?_
            exact ih22 (k + 1) ((zne6 v k) + 0) (by omega) (by omega) (by first | (simp only [zne6, Int32.add_zero, c_2, c_4, decide_true, decide_false, Bool.not_true, Bool.not_false, Bool.and_true, Bool.true_and, Bool.and_false, Bool.false_and, Bool.or_false, Bool.false_or, Bool.or_true, Bool.true_or, ↓reduceIte, Bool.false_eq_true, not_true_eq_false, not_false_eq_true, and_self]; done) | (simp [zne6, Int32.add_zero, c_2, c_4]; done) | (simp_all [zne6, Int32.add_zero]; done)) H locs hP hD hS ls (lv_sub hl [2, 1, 0] rfl)
          · replace c_4 := zI1 c_4
            refine lv_aload_n hx hb dX6_droppedShare_37 rfl (lv_at hl 0 rfl) ?_
            refine va_get (D := D) (ci := 10) (v := .ref v9) (C := RX6) (T := TX6) (N := 21) hx hb hts in_RX6 hown hK hP 0 rfl rfl 8 (by decide) (hts _ (List.mem_of_getElem? (i := 1) rfl)) (fun _ h9 => h9) rfl dX6_droppedShare_38 ?_
            refine lv_bipush (v := 10) hx hb dX6_droppedShare_41 (by decide) ?_
            refine lv_iload_n hx hb dX6_droppedShare_43 rfl (lv_at hl 2 rfl) ?_
            refine lv_iadd hx hb dX6_droppedShare_44 ?_
            refine z_top (y := nI (10 + k)) (nI_add 10 k) ?_
            refine ziald 1 0 (10 + k) hx hb hK hP rfl rfl (by omega) (z_lt rfl) dX6_droppedShare_45 ?_
            refine lv_if_ne (tgt := 53) hx hb dX6_droppedShare_46 (by decide) (fun c_5 => ?_) (fun c_5 => ?_)
            · refine lv_iconst (v := 0) hx hb dX6_droppedShare_53 (by decide) ?_
              refine lv_iadd hx hb dX6_droppedShare_54 ?_
              refine lv_istore_n (lv' := [(1, .int ((zne6 v k) + 0)), (0, .ref x9), (2, .int (nI k))]) hx hb dX6_droppedShare_55 rfl hl (by decide) rfl (fun ls hl => ?_)
              refine lv_iinc (v := nI (k + 1)) (lv' := [(2, .int (nI (k + 1))), (1, .int ((zne6 v k) + 0)), (0, .ref x9)]) hx hb dX6_droppedShare_56 hl (k := 2) rfl (by rw [show Int32.ofInt 1 = nI 1 from rfl, nI_add]) (by decide) rfl (fun ls hl => ?_)
              refine lv_goto (tgt := 22) hx hb dX6_droppedShare_59 (by decide) ?_
              exact ih22 (k + 1) ((zne6 v k) + 0) (by omega) (by omega) (by first | (simp only [zne6, Int32.add_zero, c_2, c_4, c_5, decide_true, decide_false, Bool.not_true, Bool.not_false, Bool.and_true, Bool.true_and, Bool.and_false, Bool.false_and, Bool.or_false, Bool.false_or, Bool.or_true, Bool.true_or, ↓reduceIte, Bool.false_eq_true, not_true_eq_false, not_false_eq_true, and_self]; done) | (simp [zne6, Int32.add_zero, c_2, c_4, c_5]; done) | (simp_all [zne6, Int32.add_zero]; done)) H locs hP hD hS ls (lv_sub hl [2, 1, 0] rfl)
            · refine lv_iconst (v := 1) hx hb dX6_droppedShare_49 (by decide) ?_
              refine lv_goto (tgt := 54) hx hb dX6_droppedShare_50 (by decide) ?_
              refine lv_iadd hx hb dX6_droppedShare_54 ?_
              refine lv_istore_n (lv' := [(1, .int ((zne6 v k) + 1)), (0, .ref x9), (2, .int (nI k))]) hx hb dX6_droppedShare_55 rfl hl (by decide) rfl (fun ls hl => ?_)
              refine lv_iinc (v := nI (k + 1)) (lv' := [(2, .int (nI (k + 1))), (1, .int ((zne6 v k) + 1)), (0, .ref x9)]) hx hb dX6_droppedShare_56 hl (k := 2) rfl (by rw [show Int32.ofInt 1 = nI 1 from rfl, nI_add]) (by decide) rfl (fun ls hl => ?_)
              refine lv_goto (tgt := 22) hx hb dX6_droppedShare_59 (by decide) ?_
              exact ih22 (k + 1) ((zne6 v k) + 1) (by omega) (by omega) (by first | (simp only [zne6, Int32.add_zero, c_2, c_4, c_5, decide_true, decide_false, Bool.not_true, Bool.not_false, Bool.and_true, Bool.true_and, Bool.and_false, Bool.false_and, Bool.or_false, Bool.false_or, Bool.or_true, Bool.true_or, ↓reduceIte, Bool.false_eq_true, not_true_eq_false, not_false_eq_true, and_self]; done) | (simp [zne6, Int32.add_zero, c_2, c_4, c_5]; done) | (simp_all [zne6, Int32.add_zero]; done)) H locs hP hD hS ls (lv_sub hl [2, 1, 0] rfl)
    exact L22 (24 - 0 + 1) 0 0 (by omega) (Nat.lt_succ_self _) (by rfl) H locs hP hD hS ls (lv_sub hl [2, 1, 0] rfl)

abbrev rmX6_writes : Room := { frames := 0, cells := 0, slots := 0, locals := 0 }
set_option maxHeartbeats 4000000 in
set_option maxRecDepth 100000 in
theorem c_X6_writes {G : zG} (hg : zGN G) (l : Launch) (D : va_G) (cy : Nat → ClassId) (x9 : Nat) (th : Int32) (ch : Nat) (era : Int32) (why : Int32) (det : Int32) (cau : Int32) (sv : Bool) (rj : Bool) (v9 : Nat) (b9 : Nat) (s9 : Nat) (k9 : Nat) (p9 : Nat) (t9 : Nat) (n9 : Nat) (tn : Nat) (he : Nat) (en : Nat) (ln : Nat) (iw : Bool) (dg : Bool) (lx : Nat → Int32) (xq : Int32) (hln : ln < 40) : zM G D vwCl (zT cy) l yX6_writes wsX6_writes rmX6_writes [.ref x9, .int xq] [(x9, .inr (10, [.int th, .int (nI ch), .int era, .int why, .int det, .int cau, .int (zI sv), .int (zI rj), .ref v9, .ref b9, .ref s9, .ref k9, .ref p9, .ref t9, .ref n9, .int (nI tn), .int (nI he), .int (nI en), .int (nI ln), .int (zI iw), .int (zI dg)])), (n9, .inl (cy 0, 40, .inl lx))] none [(x9, .inr (10, [.int th, .int (nI ch), .int era, .int why, .int det, .int cau, .int (zI sv), .int (zI rj), .ref v9, .ref b9, .ref s9, .ref k9, .ref p9, .ref t9, .ref n9, .int (nI tn), .int (nI he), .int (nI en), .int (nI (ln + 1)), .int (zI iw), .int (zI dg)])), (n9, .inl (cy 0, 40, .inl (upd lx ln xq)))] := by
  refine zM_of (cc := cX6_writes) (maxL := 2) (ret := none) (by decide) rfl (Nat.le_of_ble_eq_true rfl) ?_
  intro p e s m below meth c A Q hend hx hb hml hr hts hown hlk hG hK hP hD hA hS ls hl
  have hown : s.vm.findClass RX6 = some m.cls := hown
  have in_RX6 : ∀ w ∈ u_ws RX6 TX6 21, w ∈ wsX6_writes := by decide +kernel
  have hl : lv_has ls 2 [(0, .ref x9), (1, .int xq)] := hl
  refine lv_aload_n hx hb dX6_writes_0 rfl (lv_at hl 0 rfl) ?_
  refine va_get (D := D) (ci := 10) (v := .ref n9) (C := RX6) (T := TX6) (N := 21) hx hb hts in_RX6 hown hK hP 0 rfl rfl 14 (by decide) (hts _ (List.mem_of_getElem? (i := 1) rfl)) (fun _ h9 => h9) rfl dX6_writes_1 ?_
  refine lv_aload_n hx hb dX6_writes_4 rfl (lv_at hl 0 rfl) ?_
  refine va_get (D := D) (ci := 10) (v := .int (nI ln)) (C := RX6) (T := TX6) (N := 21) hx hb hts in_RX6 hown hK hP 0 rfl rfl 18 (by decide) (hts _ (List.mem_of_getElem? (i := 2) rfl)) (fun _ h9 => h9) rfl dX6_writes_5 ?_
  refine lv_iload_n hx hb dX6_writes_8 rfl (lv_at hl 1 rfl) ?_
  refine ziast 1 0 ln hx hb hK hP hD hS rfl rfl (by omega) (z_lt rfl) dX6_writes_9 (fun H locs hP hD hS => ?_)
  have hP : va_P D vwCl [(x9, .inr (10, [.int th, .int (nI ch), .int era, .int why, .int det, .int cau, .int (zI sv), .int (zI rj), .ref v9, .ref b9, .ref s9, .ref k9, .ref p9, .ref t9, .ref n9, .int (nI tn), .int (nI he), .int (nI en), .int (nI ln), .int (zI iw), .int (zI dg)])), (n9, .inl (cy 0, 40, .inl (upd lx ln xq)))] H := hP
  have hD : va_D A [(x9, .inr (10, [.int th, .int (nI ch), .int era, .int why, .int det, .int cau, .int (zI sv), .int (zI rj), .ref v9, .ref b9, .ref s9, .ref k9, .ref p9, .ref t9, .ref n9, .int (nI tn), .int (nI he), .int (nI en), .int (nI ln), .int (zI iw), .int (zI dg)])), (n9, .inl (cy 0, 40, .inl (upd lx ln xq)))] := hD
  refine lv_aload_n hx hb dX6_writes_10 rfl (lv_at hl 0 rfl) ?_
  refine lv_dup hx hb dX6_writes_11 rfl ?_
  refine va_get (D := D) (ci := 10) (v := .int (nI ln)) (C := RX6) (T := TX6) (N := 21) hx hb hts in_RX6 hown hK hP 0 rfl rfl 18 (by decide) (hts _ (List.mem_of_getElem? (i := 2) rfl)) (fun _ h9 => h9) rfl dX6_writes_12 ?_
  refine lv_iconst (v := 1) hx hb dX6_writes_15 (by decide) ?_
  refine lv_iadd hx hb dX6_writes_16 ?_
  refine z_top (y := nI (ln + 1)) (nI_add ln 1) ?_
  refine va_put (D := D) (ci := 10) (v := .int (nI (ln + 1))) (ty := .int) (C := RX6) (T := TX6) (N := 21) hx hb hts in_RX6 tyX6 tyX6_ok nmX6 hown hK hP hD hS 0 rfl rfl 18 (by decide) (hts _ (List.mem_of_getElem? (i := 2) rfl)) (fun _ h9 => h9) rfl (by decide +kernel) rfl rfl (Nat.le_of_ble_eq_true rfl) dX6_writes_17 (fun H locs hP hD hS => ?_)
  have hP : va_P D vwCl [(x9, .inr (10, [.int th, .int (nI ch), .int era, .int why, .int det, .int cau, .int (zI sv), .int (zI rj), .ref v9, .ref b9, .ref s9, .ref k9, .ref p9, .ref t9, .ref n9, .int (nI tn), .int (nI he), .int (nI en), .int (nI (ln + 1)), .int (zI iw), .int (zI dg)])), (n9, .inl (cy 0, 40, .inl (upd lx ln xq)))] H := hP
  have hD : va_D A [(x9, .inr (10, [.int th, .int (nI ch), .int era, .int why, .int det, .int cau, .int (zI sv), .int (zI rj), .ref v9, .ref b9, .ref s9, .ref k9, .ref p9, .ref t9, .ref n9, .int (nI tn), .int (nI he), .int (nI en), .int (nI (ln + 1)), .int (zI iw), .int (zI dg)])), (n9, .inl (cy 0, 40, .inl (upd lx ln xq)))] := hD
  exact zvret hend hx hb hr hlk hK hP hD hS dX6_writes_20 rfl

abbrev rmX6_writesNumber_d1 : Room := { frames := 1, cells := 0, slots := 0, locals := 21 }
set_option maxHeartbeats 4000000 in
set_option maxRecDepth 100000 in
theorem c_X6_writesNumber_d1 {G : zG} (hg : zGN G) (l : Launch) (D : va_G) (cy : Nat → ClassId) (x9 : Nat) (th : Int32) (ch : Nat) (era : Int32) (why : Int32) (det : Int32) (cau : Int32) (sv : Bool) (rj : Bool) (v9 : Nat) (b9 : Nat) (s9 : Nat) (k9 : Nat) (p9 : Nat) (t9 : Nat) (n9 : Nat) (tn : Nat) (he : Nat) (en : Nat) (ln : Nat) (iw : Bool) (dg : Bool) (lx : Nat → Int32) (nn : Nat) (hlo : 0 ≤ nn) (hhi : nn < 10) (hln : ln + 1 ≤ 40) : zM G D vwCl (zT cy) l yX6_writesNumber wsX6_writesNumber rmX6_writesNumber_d1 [.ref x9, .int (nI nn)] [(x9, .inr (10, [.int th, .int (nI ch), .int era, .int why, .int det, .int cau, .int (zI sv), .int (zI rj), .ref v9, .ref b9, .ref s9, .ref k9, .ref p9, .ref t9, .ref n9, .int (nI tn), .int (nI he), .int (nI en), .int (nI ln), .int (zI iw), .int (zI dg)])), (n9, .inl (cy 0, 40, .inl lx))] none [(x9, .inr (10, [.int th, .int (nI ch), .int era, .int why, .int det, .int cau, .int (zI sv), .int (zI rj), .ref v9, .ref b9, .ref s9, .ref k9, .ref p9, .ref t9, .ref n9, .int (nI tn), .int (nI he), .int (nI en), .int (nI (ln + 1)), .int (zI iw), .int (zI dg)])), (n9, .inl (cy 0, 40, .inl (upd lx ln (nI (48 + nn / 1 % 10)))))] := by
  refine zM_of (cc := cX6_writesNumber) (maxL := 3) (ret := none) (by decide) rfl (Nat.le_of_ble_eq_true rfl) ?_
  intro p e s m below meth c A Q hend hx hb hml hr hts hown hlk hG hK hP hD hA hS ls hl
  have hown : s.vm.findClass RX6 = some m.cls := hown
  have hl : lv_has ls 3 [(0, .ref x9), (1, .int (nI nn))] := hl
  refine lv_iconst (v := 1) hx hb dX6_writesNumber_0 (by decide) ?_
  refine lv_istore_n (lv' := [(2, .int 1), (0, .ref x9), (1, .int (nI nn))]) hx hb dX6_writesNumber_1 rfl hl (by decide) rfl (fun ls hl => ?_)
  refine lv_iload_n hx hb dX6_writesNumber_2 rfl (lv_at hl 2 rfl) ?_
  refine lv_iload_n hx hb dX6_writesNumber_3 rfl (lv_at hl 0 rfl) ?_
  refine lv_idiv hx hb dX6_writesNumber_4 (by decide) ?_
  refine z_top (y := nI (nn / 1)) (pk_div (d := 1) (by omega) (by decide) (by decide)) ?_
  refine lv_bipush (v := 10) hx hb dX6_writesNumber_5 (by decide) ?_
  refine lv_icmp_lt (tgt := 18) hx hb dX6_writesNumber_7 (by decide) (fun c_1 => ?_) (fun c_1 => ?_)
  · refine lv_iload_n hx hb dX6_writesNumber_18 rfl (lv_at hl 0 rfl) ?_
    refine lv_if_le (tgt := 43) hx hb dX6_writesNumber_19 (by decide) (fun c_2 => ?_) (fun c_2 => ?_)
    · exact absurd c_2 (by decide)
    · refine lv_aload_n hx hb dX6_writesNumber_22 rfl (lv_at hl 1 rfl) ?_
      refine lv_bipush (v := 48) hx hb dX6_writesNumber_23 (by decide) ?_
      refine lv_iload_n hx hb dX6_writesNumber_25 rfl (lv_at hl 2 rfl) ?_
      refine lv_iload_n hx hb dX6_writesNumber_26 rfl (lv_at hl 0 rfl) ?_
      refine lv_idiv hx hb dX6_writesNumber_27 (by decide) ?_
      refine z_top (y := nI (nn / 1)) (pk_div (d := 1) (by omega) (by decide) (by decide)) ?_
      refine lv_bipush (v := 10) hx hb dX6_writesNumber_28 (by decide) ?_
      refine lv_irem hx hb dX6_writesNumber_30 (by decide) ?_
      refine z_top (y := nI (nn / 1 % 10)) (pk_rem (d := 10) (by omega) (by decide) (by decide)) ?_
      refine lv_iadd hx hb dX6_writesNumber_31 ?_
      refine z_top (y := nI (48 + (nn / 1 % 10))) (nI_add 48 (nn / 1 % 10)) ?_
      refine zcV (As := [.int (nI (48 + (nn / 1 % 10)))]) (rest := []) [0, 1] 0 hg.1 ⟨hx, hb, hml, hown, hts⟩ (c_X6_writes hg l D cy x9 th ch era why det cau sv rj v9 b9 s9 k9 p9 t9 n9 tn he en ln iw dg lx (nI (48 + (nn / 1 % 10))) (by first | assumption | omega)) (cwV 1 hts gX6_writesNumber_X6_writes rfl rfl rfl (by decide +kernel) ⟨Nat.le_of_ble_eq_true rfl, Nat.le_of_ble_eq_true rfl⟩) hG hK hP hD hS hA rfl rfl (Eq.trans (b := [x9, n9]) rfl rfl) rfl rfl rfl hl.1 rfl (Nat.le_of_ble_eq_true rfl) dX6_writesNumber_32 ⟨Nat.zero_le _, Nat.zero_le _⟩ (fun H locs hP hD hS => ?_)
      have hP : va_P D vwCl [(x9, .inr (10, [.int th, .int (nI ch), .int era, .int why, .int det, .int cau, .int (zI sv), .int (zI rj), .ref v9, .ref b9, .ref s9, .ref k9, .ref p9, .ref t9, .ref n9, .int (nI tn), .int (nI he), .int (nI en), .int (nI (ln + 1)), .int (zI iw), .int (zI dg)])), (n9, .inl (cy 0, 40, .inl (upd lx ln (nI (48 + (nn / 1 % 10))))))] H := hP
      have hD : va_D A [(x9, .inr (10, [.int th, .int (nI ch), .int era, .int why, .int det, .int cau, .int (zI sv), .int (zI rj), .ref v9, .ref b9, .ref s9, .ref k9, .ref p9, .ref t9, .ref n9, .int (nI tn), .int (nI he), .int (nI en), .int (nI (ln + 1)), .int (zI iw), .int (zI dg)])), (n9, .inl (cy 0, 40, .inl (upd lx ln (nI (48 + (nn / 1 % 10))))))] := hD
      refine lv_iload_n hx hb dX6_writesNumber_35 rfl (lv_at hl 0 rfl) ?_
      refine lv_bipush (v := 10) hx hb dX6_writesNumber_36 (by decide) ?_
      refine lv_idiv hx hb dX6_writesNumber_38 (by decide) ?_
      refine z_top (y := 0) (by decide) ?_
      refine lv_istore_n (lv' := [(2, .int 0), (0, .ref x9), (1, .int (nI nn))]) hx hb dX6_writesNumber_39 rfl hl (by decide) rfl (fun ls hl => ?_)
      refine lv_goto (tgt := 18) hx hb dX6_writesNumber_40 (by decide) ?_
      refine lv_iload_n hx hb dX6_writesNumber_18 rfl (lv_at hl 0 rfl) ?_
      refine lv_if_le (tgt := 43) hx hb dX6_writesNumber_19 (by decide) (fun c_3 => ?_) (fun c_3 => ?_)
      · exact zvret hend hx hb hr hlk hK hP hD hS dX6_writesNumber_43 (by rfl)
      · exact absurd c_3 (by decide)
  · exact absurd ((nI_ltI (a := nn / 1) (b := 10) (by omega) (by omega)).mpr (by omega)) c_1

abbrev rmX6_writesNumber_d2 : Room := { frames := 1, cells := 0, slots := 0, locals := 21 }
set_option maxHeartbeats 4000000 in
set_option maxRecDepth 100000 in
theorem c_X6_writesNumber_d2 {G : zG} (hg : zGN G) (l : Launch) (D : va_G) (cy : Nat → ClassId) (x9 : Nat) (th : Int32) (ch : Nat) (era : Int32) (why : Int32) (det : Int32) (cau : Int32) (sv : Bool) (rj : Bool) (v9 : Nat) (b9 : Nat) (s9 : Nat) (k9 : Nat) (p9 : Nat) (t9 : Nat) (n9 : Nat) (tn : Nat) (he : Nat) (en : Nat) (ln : Nat) (iw : Bool) (dg : Bool) (lx : Nat → Int32) (nn : Nat) (hlo : 10 ≤ nn) (hhi : nn < 100) (hln : ln + 2 ≤ 40) : zM G D vwCl (zT cy) l yX6_writesNumber wsX6_writesNumber rmX6_writesNumber_d2 [.ref x9, .int (nI nn)] [(x9, .inr (10, [.int th, .int (nI ch), .int era, .int why, .int det, .int cau, .int (zI sv), .int (zI rj), .ref v9, .ref b9, .ref s9, .ref k9, .ref p9, .ref t9, .ref n9, .int (nI tn), .int (nI he), .int (nI en), .int (nI ln), .int (zI iw), .int (zI dg)])), (n9, .inl (cy 0, 40, .inl lx))] none [(x9, .inr (10, [.int th, .int (nI ch), .int era, .int why, .int det, .int cau, .int (zI sv), .int (zI rj), .ref v9, .ref b9, .ref s9, .ref k9, .ref p9, .ref t9, .ref n9, .int (nI tn), .int (nI he), .int (nI en), .int (nI (ln + 2)), .int (zI iw), .int (zI dg)])), (n9, .inl (cy 0, 40, .inl (upd (upd lx ln (nI (48 + nn / 10 % 10))) (ln + 1) (nI (48 + nn / 1 % 10)))))] := by
  refine zM_of (cc := cX6_writesNumber) (maxL := 3) (ret := none) (by decide) rfl (Nat.le_of_ble_eq_true rfl) ?_
  intro p e s m below meth c A Q hend hx hb hml hr hts hown hlk hG hK hP hD hA hS ls hl
  have hown : s.vm.findClass RX6 = some m.cls := hown
  have hl : lv_has ls 3 [(0, .ref x9), (1, .int (nI nn))] := hl
  refine lv_iconst (v := 1) hx hb dX6_writesNumber_0 (by decide) ?_
  refine lv_istore_n (lv' := [(2, .int 1), (0, .ref x9), (1, .int (nI nn))]) hx hb dX6_writesNumber_1 rfl hl (by decide) rfl (fun ls hl => ?_)
  refine lv_iload_n hx hb dX6_writesNumber_2 rfl (lv_at hl 2 rfl) ?_
  refine lv_iload_n hx hb dX6_writesNumber_3 rfl (lv_at hl 0 rfl) ?_
  refine lv_idiv hx hb dX6_writesNumber_4 (by decide) ?_
  refine z_top (y := nI (nn / 1)) (pk_div (d := 1) (by omega) (by decide) (by decide)) ?_
  refine lv_bipush (v := 10) hx hb dX6_writesNumber_5 (by decide) ?_
  refine lv_icmp_lt (tgt := 18) hx hb dX6_writesNumber_7 (by decide) (fun c_1 => ?_) (fun c_1 => ?_)
  · exact absurd ((nI_ltI (a := nn / 1) (b := 10) (by omega) (by omega)).mp c_1) (by omega)
  · refine lv_iload_n hx hb dX6_writesNumber_10 rfl (lv_at hl 0 rfl) ?_
    refine lv_bipush (v := 10) hx hb dX6_writesNumber_11 (by decide) ?_
    refine lv_imul hx hb dX6_writesNumber_13 ?_
    refine z_top (y := 10) (rfl) ?_
    refine lv_istore_n (lv' := [(2, .int 10), (0, .ref x9), (1, .int (nI nn))]) hx hb dX6_writesNumber_14 rfl hl (by decide) rfl (fun ls hl => ?_)
    refine lv_goto (tgt := 2) hx hb dX6_writesNumber_15 (by decide) ?_
    refine lv_iload_n hx hb dX6_writesNumber_2 rfl (lv_at hl 2 rfl) ?_
    refine lv_iload_n hx hb dX6_writesNumber_3 rfl (lv_at hl 0 rfl) ?_
    refine lv_idiv hx hb dX6_writesNumber_4 (by decide) ?_
    refine z_top (y := nI (nn / 10)) (pk_div (d := 10) (by omega) (by decide) (by decide)) ?_
    refine lv_bipush (v := 10) hx hb dX6_writesNumber_5 (by decide) ?_
    refine lv_icmp_lt (tgt := 18) hx hb dX6_writesNumber_7 (by decide) (fun c_2 => ?_) (fun c_2 => ?_)
    · refine lv_iload_n hx hb dX6_writesNumber_18 rfl (lv_at hl 0 rfl) ?_
      refine lv_if_le (tgt := 43) hx hb dX6_writesNumber_19 (by decide) (fun c_3 => ?_) (fun c_3 => ?_)
      · exact absurd c_3 (by decide)
      · refine lv_aload_n hx hb dX6_writesNumber_22 rfl (lv_at hl 1 rfl) ?_
        refine lv_bipush (v := 48) hx hb dX6_writesNumber_23 (by decide) ?_
        refine lv_iload_n hx hb dX6_writesNumber_25 rfl (lv_at hl 2 rfl) ?_
        refine lv_iload_n hx hb dX6_writesNumber_26 rfl (lv_at hl 0 rfl) ?_
        refine lv_idiv hx hb dX6_writesNumber_27 (by decide) ?_
        refine z_top (y := nI (nn / 10)) (pk_div (d := 10) (by omega) (by decide) (by decide)) ?_
        refine lv_bipush (v := 10) hx hb dX6_writesNumber_28 (by decide) ?_
        refine lv_irem hx hb dX6_writesNumber_30 (by decide) ?_
        refine z_top (y := nI (nn / 10 % 10)) (pk_rem (d := 10) (by omega) (by decide) (by decide)) ?_
        refine lv_iadd hx hb dX6_writesNumber_31 ?_
        refine z_top (y := nI (48 + (nn / 10 % 10))) (nI_add 48 (nn / 10 % 10)) ?_
        refine zcV (As := [.int (nI (48 + (nn / 10 % 10)))]) (rest := []) [0, 1] 0 hg.1 ⟨hx, hb, hml, hown, hts⟩ (c_X6_writes hg l D cy x9 th ch era why det cau sv rj v9 b9 s9 k9 p9 t9 n9 tn he en ln iw dg lx (nI (48 + (nn / 10 % 10))) (by first | assumption | omega)) (cwV 1 hts gX6_writesNumber_X6_writes rfl rfl rfl (by decide +kernel) ⟨Nat.le_of_ble_eq_true rfl, Nat.le_of_ble_eq_true rfl⟩) hG hK hP hD hS hA rfl rfl (Eq.trans (b := [x9, n9]) rfl rfl) rfl rfl rfl hl.1 rfl (Nat.le_of_ble_eq_true rfl) dX6_writesNumber_32 ⟨Nat.zero_le _, Nat.zero_le _⟩ (fun H locs hP hD hS => ?_)
        have hP : va_P D vwCl [(x9, .inr (10, [.int th, .int (nI ch), .int era, .int why, .int det, .int cau, .int (zI sv), .int (zI rj), .ref v9, .ref b9, .ref s9, .ref k9, .ref p9, .ref t9, .ref n9, .int (nI tn), .int (nI he), .int (nI en), .int (nI (ln + 1)), .int (zI iw), .int (zI dg)])), (n9, .inl (cy 0, 40, .inl (upd lx ln (nI (48 + (nn / 10 % 10))))))] H := hP
        have hD : va_D A [(x9, .inr (10, [.int th, .int (nI ch), .int era, .int why, .int det, .int cau, .int (zI sv), .int (zI rj), .ref v9, .ref b9, .ref s9, .ref k9, .ref p9, .ref t9, .ref n9, .int (nI tn), .int (nI he), .int (nI en), .int (nI (ln + 1)), .int (zI iw), .int (zI dg)])), (n9, .inl (cy 0, 40, .inl (upd lx ln (nI (48 + (nn / 10 % 10))))))] := hD
        refine lv_iload_n hx hb dX6_writesNumber_35 rfl (lv_at hl 0 rfl) ?_
        refine lv_bipush (v := 10) hx hb dX6_writesNumber_36 (by decide) ?_
        refine lv_idiv hx hb dX6_writesNumber_38 (by decide) ?_
        refine z_top (y := 1) (by decide) ?_
        refine lv_istore_n (lv' := [(2, .int 1), (0, .ref x9), (1, .int (nI nn))]) hx hb dX6_writesNumber_39 rfl hl (by decide) rfl (fun ls hl => ?_)
        refine lv_goto (tgt := 18) hx hb dX6_writesNumber_40 (by decide) ?_
        refine lv_iload_n hx hb dX6_writesNumber_18 rfl (lv_at hl 0 rfl) ?_
        refine lv_if_le (tgt := 43) hx hb dX6_writesNumber_19 (by decide) (fun c_4 => ?_) (fun c_4 => ?_)
        · exact absurd c_4 (by decide)
        · refine lv_aload_n hx hb dX6_writesNumber_22 rfl (lv_at hl 1 rfl) ?_
          refine lv_bipush (v := 48) hx hb dX6_writesNumber_23 (by decide) ?_
          refine lv_iload_n hx hb dX6_writesNumber_25 rfl (lv_at hl 2 rfl) ?_
          refine lv_iload_n hx hb dX6_writesNumber_26 rfl (lv_at hl 0 rfl) ?_
          refine lv_idiv hx hb dX6_writesNumber_27 (by decide) ?_
          refine z_top (y := nI (nn / 1)) (pk_div (d := 1) (by omega) (by decide) (by decide)) ?_
          refine lv_bipush (v := 10) hx hb dX6_writesNumber_28 (by decide) ?_
          refine lv_irem hx hb dX6_writesNumber_30 (by decide) ?_
          refine z_top (y := nI (nn / 1 % 10)) (pk_rem (d := 10) (by omega) (by decide) (by decide)) ?_
          refine lv_iadd hx hb dX6_writesNumber_31 ?_
          refine z_top (y := nI (48 + (nn / 1 % 10))) (nI_add 48 (nn / 1 % 10)) ?_
          refine zcV (As := [.int (nI (48 + (nn / 1 % 10)))]) (rest := []) [0, 1] 0 hg.1 ⟨hx, hb, hml, hown, hts⟩ (c_X6_writes hg l D cy x9 th ch era why det cau sv rj v9 b9 s9 k9 p9 t9 n9 tn he en (ln + 1) iw dg (upd lx ln (nI (48 + (nn / 10 % 10)))) (nI (48 + (nn / 1 % 10))) (by first | assumption | omega)) (cwV 1 hts gX6_writesNumber_X6_writes rfl rfl rfl (by decide +kernel) ⟨Nat.le_of_ble_eq_true rfl, Nat.le_of_ble_eq_true rfl⟩) hG hK hP hD hS hA rfl rfl (Eq.trans (b := [x9, n9]) rfl rfl) rfl rfl rfl hl.1 rfl (Nat.le_of_ble_eq_true rfl) dX6_writesNumber_32 ⟨Nat.zero_le _, Nat.zero_le _⟩ (fun H locs hP hD hS => ?_)
          have hP : va_P D vwCl [(x9, .inr (10, [.int th, .int (nI ch), .int era, .int why, .int det, .int cau, .int (zI sv), .int (zI rj), .ref v9, .ref b9, .ref s9, .ref k9, .ref p9, .ref t9, .ref n9, .int (nI tn), .int (nI he), .int (nI en), .int (nI ((ln + 1) + 1)), .int (zI iw), .int (zI dg)])), (n9, .inl (cy 0, 40, .inl (upd (upd lx ln (nI (48 + (nn / 10 % 10)))) (ln + 1) (nI (48 + (nn / 1 % 10))))))] H := hP
          have hD : va_D A [(x9, .inr (10, [.int th, .int (nI ch), .int era, .int why, .int det, .int cau, .int (zI sv), .int (zI rj), .ref v9, .ref b9, .ref s9, .ref k9, .ref p9, .ref t9, .ref n9, .int (nI tn), .int (nI he), .int (nI en), .int (nI ((ln + 1) + 1)), .int (zI iw), .int (zI dg)])), (n9, .inl (cy 0, 40, .inl (upd (upd lx ln (nI (48 + (nn / 10 % 10)))) (ln + 1) (nI (48 + (nn / 1 % 10))))))] := hD
          refine lv_iload_n hx hb dX6_writesNumber_35 rfl (lv_at hl 0 rfl) ?_
          refine lv_bipush (v := 10) hx hb dX6_writesNumber_36 (by decide) ?_
          refine lv_idiv hx hb dX6_writesNumber_38 (by decide) ?_
          refine z_top (y := 0) (by decide) ?_
          refine lv_istore_n (lv' := [(2, .int 0), (0, .ref x9), (1, .int (nI nn))]) hx hb dX6_writesNumber_39 rfl hl (by decide) rfl (fun ls hl => ?_)
          refine lv_goto (tgt := 18) hx hb dX6_writesNumber_40 (by decide) ?_
          refine lv_iload_n hx hb dX6_writesNumber_18 rfl (lv_at hl 0 rfl) ?_
          refine lv_if_le (tgt := 43) hx hb dX6_writesNumber_19 (by decide) (fun c_5 => ?_) (fun c_5 => ?_)
          · exact zvret hend hx hb hr hlk hK hP hD hS dX6_writesNumber_43 (by rfl)
          · exact absurd c_5 (by decide)
    · exact absurd ((nI_ltI (a := nn / 10) (b := 10) (by omega) (by omega)).mpr (by omega)) c_2

abbrev rmX6_writesNumber_d3 : Room := { frames := 1, cells := 0, slots := 0, locals := 21 }
set_option maxHeartbeats 4000000 in
set_option maxRecDepth 100000 in
theorem c_X6_writesNumber_d3 {G : zG} (hg : zGN G) (l : Launch) (D : va_G) (cy : Nat → ClassId) (x9 : Nat) (th : Int32) (ch : Nat) (era : Int32) (why : Int32) (det : Int32) (cau : Int32) (sv : Bool) (rj : Bool) (v9 : Nat) (b9 : Nat) (s9 : Nat) (k9 : Nat) (p9 : Nat) (t9 : Nat) (n9 : Nat) (tn : Nat) (he : Nat) (en : Nat) (ln : Nat) (iw : Bool) (dg : Bool) (lx : Nat → Int32) (nn : Nat) (hlo : 100 ≤ nn) (hhi : nn < 1000) (hln : ln + 3 ≤ 40) : zM G D vwCl (zT cy) l yX6_writesNumber wsX6_writesNumber rmX6_writesNumber_d3 [.ref x9, .int (nI nn)] [(x9, .inr (10, [.int th, .int (nI ch), .int era, .int why, .int det, .int cau, .int (zI sv), .int (zI rj), .ref v9, .ref b9, .ref s9, .ref k9, .ref p9, .ref t9, .ref n9, .int (nI tn), .int (nI he), .int (nI en), .int (nI ln), .int (zI iw), .int (zI dg)])), (n9, .inl (cy 0, 40, .inl lx))] none [(x9, .inr (10, [.int th, .int (nI ch), .int era, .int why, .int det, .int cau, .int (zI sv), .int (zI rj), .ref v9, .ref b9, .ref s9, .ref k9, .ref p9, .ref t9, .ref n9, .int (nI tn), .int (nI he), .int (nI en), .int (nI (ln + 3)), .int (zI iw), .int (zI dg)])), (n9, .inl (cy 0, 40, .inl (upd (upd (upd lx ln (nI (48 + nn / 100 % 10))) (ln + 1) (nI (48 + nn / 10 % 10))) (ln + 2) (nI (48 + nn / 1 % 10)))))] := by
  refine zM_of (cc := cX6_writesNumber) (maxL := 3) (ret := none) (by decide) rfl (Nat.le_of_ble_eq_true rfl) ?_
  intro p e s m below meth c A Q hend hx hb hml hr hts hown hlk hG hK hP hD hA hS ls hl
  have hown : s.vm.findClass RX6 = some m.cls := hown
  have hl : lv_has ls 3 [(0, .ref x9), (1, .int (nI nn))] := hl
  refine lv_iconst (v := 1) hx hb dX6_writesNumber_0 (by decide) ?_
  refine lv_istore_n (lv' := [(2, .int 1), (0, .ref x9), (1, .int (nI nn))]) hx hb dX6_writesNumber_1 rfl hl (by decide) rfl (fun ls hl => ?_)
  refine lv_iload_n hx hb dX6_writesNumber_2 rfl (lv_at hl 2 rfl) ?_
  refine lv_iload_n hx hb dX6_writesNumber_3 rfl (lv_at hl 0 rfl) ?_
  refine lv_idiv hx hb dX6_writesNumber_4 (by decide) ?_
  refine z_top (y := nI (nn / 1)) (pk_div (d := 1) (by omega) (by decide) (by decide)) ?_
  refine lv_bipush (v := 10) hx hb dX6_writesNumber_5 (by decide) ?_
  refine lv_icmp_lt (tgt := 18) hx hb dX6_writesNumber_7 (by decide) (fun c_1 => ?_) (fun c_1 => ?_)
  · exact absurd ((nI_ltI (a := nn / 1) (b := 10) (by omega) (by omega)).mp c_1) (by omega)
  · refine lv_iload_n hx hb dX6_writesNumber_10 rfl (lv_at hl 0 rfl) ?_
    refine lv_bipush (v := 10) hx hb dX6_writesNumber_11 (by decide) ?_
    refine lv_imul hx hb dX6_writesNumber_13 ?_
    refine z_top (y := 10) (rfl) ?_
    refine lv_istore_n (lv' := [(2, .int 10), (0, .ref x9), (1, .int (nI nn))]) hx hb dX6_writesNumber_14 rfl hl (by decide) rfl (fun ls hl => ?_)
    refine lv_goto (tgt := 2) hx hb dX6_writesNumber_15 (by decide) ?_
    refine lv_iload_n hx hb dX6_writesNumber_2 rfl (lv_at hl 2 rfl) ?_
    refine lv_iload_n hx hb dX6_writesNumber_3 rfl (lv_at hl 0 rfl) ?_
    refine lv_idiv hx hb dX6_writesNumber_4 (by decide) ?_
    refine z_top (y := nI (nn / 10)) (pk_div (d := 10) (by omega) (by decide) (by decide)) ?_
    refine lv_bipush (v := 10) hx hb dX6_writesNumber_5 (by decide) ?_
    refine lv_icmp_lt (tgt := 18) hx hb dX6_writesNumber_7 (by decide) (fun c_2 => ?_) (fun c_2 => ?_)
    · exact absurd ((nI_ltI (a := nn / 10) (b := 10) (by omega) (by omega)).mp c_2) (by omega)
    · refine lv_iload_n hx hb dX6_writesNumber_10 rfl (lv_at hl 0 rfl) ?_
      refine lv_bipush (v := 10) hx hb dX6_writesNumber_11 (by decide) ?_
      refine lv_imul hx hb dX6_writesNumber_13 ?_
      refine z_top (y := 100) (rfl) ?_
      refine lv_istore_n (lv' := [(2, .int 100), (0, .ref x9), (1, .int (nI nn))]) hx hb dX6_writesNumber_14 rfl hl (by decide) rfl (fun ls hl => ?_)
      refine lv_goto (tgt := 2) hx hb dX6_writesNumber_15 (by decide) ?_
      refine lv_iload_n hx hb dX6_writesNumber_2 rfl (lv_at hl 2 rfl) ?_
      refine lv_iload_n hx hb dX6_writesNumber_3 rfl (lv_at hl 0 rfl) ?_
      refine lv_idiv hx hb dX6_writesNumber_4 (by decide) ?_
      refine z_top (y := nI (nn / 100)) (pk_div (d := 100) (by omega) (by decide) (by decide)) ?_
      refine lv_bipush (v := 10) hx hb dX6_writesNumber_5 (by decide) ?_
      refine lv_icmp_lt (tgt := 18) hx hb dX6_writesNumber_7 (by decide) (fun c_3 => ?_) (fun c_3 => ?_)
      · refine lv_iload_n hx hb dX6_writesNumber_18 rfl (lv_at hl 0 rfl) ?_
        refine lv_if_le (tgt := 43) hx hb dX6_writesNumber_19 (by decide) (fun c_4 => ?_) (fun c_4 => ?_)
        · exact absurd c_4 (by decide)
        · refine lv_aload_n hx hb dX6_writesNumber_22 rfl (lv_at hl 1 rfl) ?_
          refine lv_bipush (v := 48) hx hb dX6_writesNumber_23 (by decide) ?_
          refine lv_iload_n hx hb dX6_writesNumber_25 rfl (lv_at hl 2 rfl) ?_
          refine lv_iload_n hx hb dX6_writesNumber_26 rfl (lv_at hl 0 rfl) ?_
          refine lv_idiv hx hb dX6_writesNumber_27 (by decide) ?_
          refine z_top (y := nI (nn / 100)) (pk_div (d := 100) (by omega) (by decide) (by decide)) ?_
          refine lv_bipush (v := 10) hx hb dX6_writesNumber_28 (by decide) ?_
          refine lv_irem hx hb dX6_writesNumber_30 (by decide) ?_
          refine z_top (y := nI (nn / 100 % 10)) (pk_rem (d := 10) (by omega) (by decide) (by decide)) ?_
          refine lv_iadd hx hb dX6_writesNumber_31 ?_
          refine z_top (y := nI (48 + (nn / 100 % 10))) (nI_add 48 (nn / 100 % 10)) ?_
          refine zcV (As := [.int (nI (48 + (nn / 100 % 10)))]) (rest := []) [0, 1] 0 hg.1 ⟨hx, hb, hml, hown, hts⟩ (c_X6_writes hg l D cy x9 th ch era why det cau sv rj v9 b9 s9 k9 p9 t9 n9 tn he en ln iw dg lx (nI (48 + (nn / 100 % 10))) (by first | assumption | omega)) (cwV 1 hts gX6_writesNumber_X6_writes rfl rfl rfl (by decide +kernel) ⟨Nat.le_of_ble_eq_true rfl, Nat.le_of_ble_eq_true rfl⟩) hG hK hP hD hS hA rfl rfl (Eq.trans (b := [x9, n9]) rfl rfl) rfl rfl rfl hl.1 rfl (Nat.le_of_ble_eq_true rfl) dX6_writesNumber_32 ⟨Nat.zero_le _, Nat.zero_le _⟩ (fun H locs hP hD hS => ?_)
          have hP : va_P D vwCl [(x9, .inr (10, [.int th, .int (nI ch), .int era, .int why, .int det, .int cau, .int (zI sv), .int (zI rj), .ref v9, .ref b9, .ref s9, .ref k9, .ref p9, .ref t9, .ref n9, .int (nI tn), .int (nI he), .int (nI en), .int (nI (ln + 1)), .int (zI iw), .int (zI dg)])), (n9, .inl (cy 0, 40, .inl (upd lx ln (nI (48 + (nn / 100 % 10))))))] H := hP
          have hD : va_D A [(x9, .inr (10, [.int th, .int (nI ch), .int era, .int why, .int det, .int cau, .int (zI sv), .int (zI rj), .ref v9, .ref b9, .ref s9, .ref k9, .ref p9, .ref t9, .ref n9, .int (nI tn), .int (nI he), .int (nI en), .int (nI (ln + 1)), .int (zI iw), .int (zI dg)])), (n9, .inl (cy 0, 40, .inl (upd lx ln (nI (48 + (nn / 100 % 10))))))] := hD
          refine lv_iload_n hx hb dX6_writesNumber_35 rfl (lv_at hl 0 rfl) ?_
          refine lv_bipush (v := 10) hx hb dX6_writesNumber_36 (by decide) ?_
          refine lv_idiv hx hb dX6_writesNumber_38 (by decide) ?_
          refine z_top (y := 10) (by decide) ?_
          refine lv_istore_n (lv' := [(2, .int 10), (0, .ref x9), (1, .int (nI nn))]) hx hb dX6_writesNumber_39 rfl hl (by decide) rfl (fun ls hl => ?_)
          refine lv_goto (tgt := 18) hx hb dX6_writesNumber_40 (by decide) ?_
          refine lv_iload_n hx hb dX6_writesNumber_18 rfl (lv_at hl 0 rfl) ?_
          refine lv_if_le (tgt := 43) hx hb dX6_writesNumber_19 (by decide) (fun c_5 => ?_) (fun c_5 => ?_)
          · exact absurd c_5 (by decide)
          · refine lv_aload_n hx hb dX6_writesNumber_22 rfl (lv_at hl 1 rfl) ?_
            refine lv_bipush (v := 48) hx hb dX6_writesNumber_23 (by decide) ?_
            refine lv_iload_n hx hb dX6_writesNumber_25 rfl (lv_at hl 2 rfl) ?_
            refine lv_iload_n hx hb dX6_writesNumber_26 rfl (lv_at hl 0 rfl) ?_
            refine lv_idiv hx hb dX6_writesNumber_27 (by decide) ?_
            refine z_top (y := nI (nn / 10)) (pk_div (d := 10) (by omega) (by decide) (by decide)) ?_
            refine lv_bipush (v := 10) hx hb dX6_writesNumber_28 (by decide) ?_
            refine lv_irem hx hb dX6_writesNumber_30 (by decide) ?_
            refine z_top (y := nI (nn / 10 % 10)) (pk_rem (d := 10) (by omega) (by decide) (by decide)) ?_
            refine lv_iadd hx hb dX6_writesNumber_31 ?_
            refine z_top (y := nI (48 + (nn / 10 % 10))) (nI_add 48 (nn / 10 % 10)) ?_
            refine zcV (As := [.int (nI (48 + (nn / 10 % 10)))]) (rest := []) [0, 1] 0 hg.1 ⟨hx, hb, hml, hown, hts⟩ (c_X6_writes hg l D cy x9 th ch era why det cau sv rj v9 b9 s9 k9 p9 t9 n9 tn he en (ln + 1) iw dg (upd lx ln (nI (48 + (nn / 100 % 10)))) (nI (48 + (nn / 10 % 10))) (by first | assumption | omega)) (cwV 1 hts gX6_writesNumber_X6_writes rfl rfl rfl (by decide +kernel) ⟨Nat.le_of_ble_eq_true rfl, Nat.le_of_ble_eq_true rfl⟩) hG hK hP hD hS hA rfl rfl (Eq.trans (b := [x9, n9]) rfl rfl) rfl rfl rfl hl.1 rfl (Nat.le_of_ble_eq_true rfl) dX6_writesNumber_32 ⟨Nat.zero_le _, Nat.zero_le _⟩ (fun H locs hP hD hS => ?_)
            have hP : va_P D vwCl [(x9, .inr (10, [.int th, .int (nI ch), .int era, .int why, .int det, .int cau, .int (zI sv), .int (zI rj), .ref v9, .ref b9, .ref s9, .ref k9, .ref p9, .ref t9, .ref n9, .int (nI tn), .int (nI he), .int (nI en), .int (nI ((ln + 1) + 1)), .int (zI iw), .int (zI dg)])), (n9, .inl (cy 0, 40, .inl (upd (upd lx ln (nI (48 + (nn / 100 % 10)))) (ln + 1) (nI (48 + (nn / 10 % 10))))))] H := hP
            have hD : va_D A [(x9, .inr (10, [.int th, .int (nI ch), .int era, .int why, .int det, .int cau, .int (zI sv), .int (zI rj), .ref v9, .ref b9, .ref s9, .ref k9, .ref p9, .ref t9, .ref n9, .int (nI tn), .int (nI he), .int (nI en), .int (nI ((ln + 1) + 1)), .int (zI iw), .int (zI dg)])), (n9, .inl (cy 0, 40, .inl (upd (upd lx ln (nI (48 + (nn / 100 % 10)))) (ln + 1) (nI (48 + (nn / 10 % 10))))))] := hD
            refine lv_iload_n hx hb dX6_writesNumber_35 rfl (lv_at hl 0 rfl) ?_
            refine lv_bipush (v := 10) hx hb dX6_writesNumber_36 (by decide) ?_
            refine lv_idiv hx hb dX6_writesNumber_38 (by decide) ?_
            refine z_top (y := 1) (by decide) ?_
            refine lv_istore_n (lv' := [(2, .int 1), (0, .ref x9), (1, .int (nI nn))]) hx hb dX6_writesNumber_39 rfl hl (by decide) rfl (fun ls hl => ?_)
            refine lv_goto (tgt := 18) hx hb dX6_writesNumber_40 (by decide) ?_
            refine lv_iload_n hx hb dX6_writesNumber_18 rfl (lv_at hl 0 rfl) ?_
            refine lv_if_le (tgt := 43) hx hb dX6_writesNumber_19 (by decide) (fun c_6 => ?_) (fun c_6 => ?_)
            · exact absurd c_6 (by decide)
            · refine lv_aload_n hx hb dX6_writesNumber_22 rfl (lv_at hl 1 rfl) ?_
              refine lv_bipush (v := 48) hx hb dX6_writesNumber_23 (by decide) ?_
              refine lv_iload_n hx hb dX6_writesNumber_25 rfl (lv_at hl 2 rfl) ?_
              refine lv_iload_n hx hb dX6_writesNumber_26 rfl (lv_at hl 0 rfl) ?_
              refine lv_idiv hx hb dX6_writesNumber_27 (by decide) ?_
              refine z_top (y := nI (nn / 1)) (pk_div (d := 1) (by omega) (by decide) (by decide)) ?_
              refine lv_bipush (v := 10) hx hb dX6_writesNumber_28 (by decide) ?_
              refine lv_irem hx hb dX6_writesNumber_30 (by decide) ?_
              refine z_top (y := nI (nn / 1 % 10)) (pk_rem (d := 10) (by omega) (by decide) (by decide)) ?_
              refine lv_iadd hx hb dX6_writesNumber_31 ?_
              refine z_top (y := nI (48 + (nn / 1 % 10))) (nI_add 48 (nn / 1 % 10)) ?_
              refine zcV (As := [.int (nI (48 + (nn / 1 % 10)))]) (rest := []) [0, 1] 0 hg.1 ⟨hx, hb, hml, hown, hts⟩ (c_X6_writes hg l D cy x9 th ch era why det cau sv rj v9 b9 s9 k9 p9 t9 n9 tn he en ((ln + 1) + 1) iw dg (upd (upd lx ln (nI (48 + (nn / 100 % 10)))) (ln + 1) (nI (48 + (nn / 10 % 10)))) (nI (48 + (nn / 1 % 10))) (by first | assumption | omega)) (cwV 1 hts gX6_writesNumber_X6_writes rfl rfl rfl (by decide +kernel) ⟨Nat.le_of_ble_eq_true rfl, Nat.le_of_ble_eq_true rfl⟩) hG hK hP hD hS hA rfl rfl (Eq.trans (b := [x9, n9]) rfl rfl) rfl rfl rfl hl.1 rfl (Nat.le_of_ble_eq_true rfl) dX6_writesNumber_32 ⟨Nat.zero_le _, Nat.zero_le _⟩ (fun H locs hP hD hS => ?_)
              have hP : va_P D vwCl [(x9, .inr (10, [.int th, .int (nI ch), .int era, .int why, .int det, .int cau, .int (zI sv), .int (zI rj), .ref v9, .ref b9, .ref s9, .ref k9, .ref p9, .ref t9, .ref n9, .int (nI tn), .int (nI he), .int (nI en), .int (nI (((ln + 1) + 1) + 1)), .int (zI iw), .int (zI dg)])), (n9, .inl (cy 0, 40, .inl (upd (upd (upd lx ln (nI (48 + (nn / 100 % 10)))) (ln + 1) (nI (48 + (nn / 10 % 10)))) ((ln + 1) + 1) (nI (48 + (nn / 1 % 10))))))] H := hP
              have hD : va_D A [(x9, .inr (10, [.int th, .int (nI ch), .int era, .int why, .int det, .int cau, .int (zI sv), .int (zI rj), .ref v9, .ref b9, .ref s9, .ref k9, .ref p9, .ref t9, .ref n9, .int (nI tn), .int (nI he), .int (nI en), .int (nI (((ln + 1) + 1) + 1)), .int (zI iw), .int (zI dg)])), (n9, .inl (cy 0, 40, .inl (upd (upd (upd lx ln (nI (48 + (nn / 100 % 10)))) (ln + 1) (nI (48 + (nn / 10 % 10)))) ((ln + 1) + 1) (nI (48 + (nn / 1 % 10))))))] := hD
              refine lv_iload_n hx hb dX6_writesNumber_35 rfl (lv_at hl 0 rfl) ?_
              refine lv_bipush (v := 10) hx hb dX6_writesNumber_36 (by decide) ?_
              refine lv_idiv hx hb dX6_writesNumber_38 (by decide) ?_
              refine z_top (y := 0) (by decide) ?_
              refine lv_istore_n (lv' := [(2, .int 0), (0, .ref x9), (1, .int (nI nn))]) hx hb dX6_writesNumber_39 rfl hl (by decide) rfl (fun ls hl => ?_)
              refine lv_goto (tgt := 18) hx hb dX6_writesNumber_40 (by decide) ?_
              refine lv_iload_n hx hb dX6_writesNumber_18 rfl (lv_at hl 0 rfl) ?_
              refine lv_if_le (tgt := 43) hx hb dX6_writesNumber_19 (by decide) (fun c_7 => ?_) (fun c_7 => ?_)
              · exact zvret hend hx hb hr hlk hK hP hD hS dX6_writesNumber_43 (by rfl)
              · exact absurd c_7 (by decide)
      · exact absurd ((nI_ltI (a := nn / 100) (b := 10) (by omega) (by omega)).mpr (by omega)) c_3

/-- a number in tens -/
def zln (n : Nat) : Nat := if n < 10 then 1 else if n < 100 then 2 else 3
def zlw (lx : Nat → Int32) (ln n : Nat) : Nat → Int32 := if n < 10 then upd lx ln (nI (48 + n / 1 % 10)) else if n < 100 then upd (upd lx ln (nI (48 + n / 10 % 10))) (ln + 1) (nI (48 + n / 1 % 10)) else upd (upd (upd lx ln (nI (48 + n / 100 % 10))) (ln + 1) (nI (48 + n / 10 % 10))) (ln + 2) (nI (48 + n / 1 % 10))
theorem zln_le (n : Nat) : zln n ≤ 3 := by
  simp only [zln]
  split
  · omega
  · split <;> omega
set_option maxRecDepth 100000 in
theorem c_X6_writesNumber_any {G : zG} (hg : zGN G) (l : Launch) (D : va_G) (cy : Nat → ClassId) (x9 : Nat) (th : Int32) (ch : Nat) (era : Int32) (why : Int32) (det : Int32) (cau : Int32) (sv : Bool) (rj : Bool) (v9 : Nat) (b9 : Nat) (s9 : Nat) (k9 : Nat) (p9 : Nat) (t9 : Nat) (n9 : Nat) (tn : Nat) (he : Nat) (en : Nat) (ln : Nat) (iw : Bool) (dg : Bool) (lx : Nat → Int32) (nn : Nat) (hhi : nn < 1000) (hln : ln + 3 ≤ 40) : zM G D vwCl (zT cy) l yX6_writesNumber wsX6_writesNumber { frames := 1, cells := 0, slots := 0, locals := 21 } [.ref x9, .int (nI nn)] [(x9, .inr (10, [.int th, .int (nI ch), .int era, .int why, .int det, .int cau, .int (zI sv), .int (zI rj), .ref v9, .ref b9, .ref s9, .ref k9, .ref p9, .ref t9, .ref n9, .int (nI tn), .int (nI he), .int (nI en), .int (nI ln), .int (zI iw), .int (zI dg)])), (n9, .inl (cy 0, 40, .inl lx))] none [(x9, .inr (10, [.int th, .int (nI ch), .int era, .int why, .int det, .int cau, .int (zI sv), .int (zI rj), .ref v9, .ref b9, .ref s9, .ref k9, .ref p9, .ref t9, .ref n9, .int (nI tn), .int (nI he), .int (nI en), .int (nI (ln + zln nn)), .int (zI iw), .int (zI dg)])), (n9, .inl (cy 0, 40, .inl (zlw lx ln nn)))] := by
  by_cases h1 : nn < 10
  · rw [show zln nn = 1 by simp only [zln]; rw [if_pos h1], show zlw lx ln nn = _ by simp only [zlw]; rw [if_pos h1]]; exact c_X6_writesNumber_d1 hg l D cy x9 th ch era why det cau sv rj v9 b9 s9 k9 p9 t9 n9 tn he en ln iw dg lx nn (by omega) h1 (by omega)
  by_cases h2 : nn < 100
  · rw [show zln nn = 2 by simp only [zln]; rw [if_neg h1, if_pos h2], show zlw lx ln nn = _ by simp only [zlw]; rw [if_neg h1, if_pos h2]]; exact c_X6_writesNumber_d2 hg l D cy x9 th ch era why det cau sv rj v9 b9 s9 k9 p9 t9 n9 tn he en ln iw dg lx nn (by omega) h2 (by omega)
  rw [show zln nn = 3 by simp only [zln]; rw [if_neg h1, if_neg h2], show zlw lx ln nn = _ by simp only [zlw]; rw [if_neg h1, if_neg h2]]; exact c_X6_writesNumber_d3 hg l D cy x9 th ch era why det cau sv rj v9 b9 s9 k9 p9 t9 n9 tn he en ln iw dg lx nn (by omega) hhi (by omega)
abbrev rmX6_writeBed : Room := { frames := 1, cells := 0, slots := 0, locals := 21 }
set_option maxHeartbeats 4000000 in
set_option maxRecDepth 100000 in
theorem c_X6_writeBed {G : zG} (hg : zGN G) (l : Launch) (D : va_G) (cy : Nat → ClassId) (x9 : Nat) (th : Int32) (ch : Nat) (era : Int32) (why : Int32) (det : Int32) (cau : Int32) (sv : Bool) (rj : Bool) (v9 : Nat) (b9 : Nat) (s9 : Nat) (k9 : Nat) (p9 : Nat) (t9 : Nat) (n9 : Nat) (tn : Nat) (he : Nat) (en : Nat) (ln : Nat) (iw : Bool) (dg : Bool) (v : Nat → Int32) (lx : Nat → Int32) : zM G D vwCl (zT cy) l yX6_writeBed wsX6_writeBed rmX6_writeBed [.ref x9] [(x9, .inr (10, [.int th, .int (nI ch), .int era, .int why, .int det, .int cau, .int (zI sv), .int (zI rj), .ref v9, .ref b9, .ref s9, .ref k9, .ref p9, .ref t9, .ref n9, .int (nI tn), .int (nI he), .int (nI en), .int (nI ln), .int (zI iw), .int (zI dg)])), (v9, .inl (cy 0, 188, .inl v)), (n9, .inl (cy 0, 40, .inl lx))] (some (.int (nI 24))) [(x9, .inr (10, [.int 0, .int (nI ch), .int era, .int why, .int det, .int cau, .int (zI sv), .int (zI rj), .ref v9, .ref b9, .ref s9, .ref k9, .ref p9, .ref t9, .ref n9, .int (nI tn), .int (nI he), .int (nI en), .int (nI 24), .int (zI iw), .int (zI dg)])), (v9, .inl (cy 0, 188, .inl v)), (n9, .inl (cy 0, 40, .inl (zwb6 v lx 24)))] := by
  refine zM_of (cc := cX6_writeBed) (maxL := 5) (ret := (some .int)) (by decide) rfl (Nat.le_of_ble_eq_true rfl) ?_
  intro p e s m below meth c A Q hend hx hb hml hr hts hown hlk hG hK hP hD hA hS ls hl
  have hown : s.vm.findClass RX6 = some m.cls := hown
  have in_RX6 : ∀ w ∈ u_ws RX6 TX6 21, w ∈ wsX6_writeBed := by decide +kernel
  have hl : lv_has ls 5 [(0, .ref x9)] := hl
  refine lv_aload_n hx hb dX6_writeBed_0 rfl (lv_at hl 0 rfl) ?_
  refine lv_iconst (v := 0) hx hb dX6_writeBed_1 (by decide) ?_
  refine va_put (D := D) (ci := 10) (v := .int 0) (ty := .int) (C := RX6) (T := TX6) (N := 21) hx hb hts in_RX6 tyX6 tyX6_ok nmX6 hown hK hP hD hS 0 rfl rfl 0 (by decide) (hts _ (List.mem_of_getElem? (i := 1) rfl)) (fun _ h9 => h9) rfl (by decide +kernel) rfl rfl (Nat.le_of_ble_eq_true rfl) dX6_writeBed_2 (fun H locs hP hD hS => ?_)
  have hP : va_P D vwCl [(x9, .inr (10, [.int 0, .int (nI ch), .int era, .int why, .int det, .int cau, .int (zI sv), .int (zI rj), .ref v9, .ref b9, .ref s9, .ref k9, .ref p9, .ref t9, .ref n9, .int (nI tn), .int (nI he), .int (nI en), .int (nI ln), .int (zI iw), .int (zI dg)])), (v9, .inl (cy 0, 188, .inl v)), (n9, .inl (cy 0, 40, .inl lx))] H := hP
  have hD : va_D A [(x9, .inr (10, [.int 0, .int (nI ch), .int era, .int why, .int det, .int cau, .int (zI sv), .int (zI rj), .ref v9, .ref b9, .ref s9, .ref k9, .ref p9, .ref t9, .ref n9, .int (nI tn), .int (nI he), .int (nI en), .int (nI ln), .int (zI iw), .int (zI dg)])), (v9, .inl (cy 0, 188, .inl v)), (n9, .inl (cy 0, 40, .inl lx))] := hD
  refine lv_aload_n hx hb dX6_writeBed_5 rfl (lv_at hl 0 rfl) ?_
  refine lv_iconst (v := 0) hx hb dX6_writeBed_6 (by decide) ?_
  refine z_top (y := nI 0) (rfl) ?_
  refine va_put (D := D) (ci := 10) (v := .int (nI 0)) (ty := .int) (C := RX6) (T := TX6) (N := 21) hx hb hts in_RX6 tyX6 tyX6_ok nmX6 hown hK hP hD hS 0 rfl rfl 18 (by decide) (hts _ (List.mem_of_getElem? (i := 2) rfl)) (fun _ h9 => h9) rfl (by decide +kernel) rfl rfl (Nat.le_of_ble_eq_true rfl) dX6_writeBed_7 (fun H locs hP hD hS => ?_)
  have hP : va_P D vwCl [(x9, .inr (10, [.int 0, .int (nI ch), .int era, .int why, .int det, .int cau, .int (zI sv), .int (zI rj), .ref v9, .ref b9, .ref s9, .ref k9, .ref p9, .ref t9, .ref n9, .int (nI tn), .int (nI he), .int (nI en), .int (nI 0), .int (zI iw), .int (zI dg)])), (v9, .inl (cy 0, 188, .inl v)), (n9, .inl (cy 0, 40, .inl lx))] H := hP
  have hD : va_D A [(x9, .inr (10, [.int 0, .int (nI ch), .int era, .int why, .int det, .int cau, .int (zI sv), .int (zI rj), .ref v9, .ref b9, .ref s9, .ref k9, .ref p9, .ref t9, .ref n9, .int (nI tn), .int (nI he), .int (nI en), .int (nI 0), .int (zI iw), .int (zI dg)])), (v9, .inl (cy 0, 188, .inl v)), (n9, .inl (cy 0, 40, .inl lx))] := hD
  refine lv_iconst (v := 0) hx hb dX6_writeBed_10 (by decide) ?_
  refine lv_istore_n (lv' := [(1, .int 0), (0, .ref x9)]) hx hb dX6_writeBed_11 rfl hl (by decide) rfl (fun ls hl => ?_)
  have L12 : ∀ (F : Nat) (k : Nat) (x12_0 : Nat → Int32), k ≤ 24 → 24 - k < F → x12_0 = zwb6 v lx k → ∀ (H : Heap) (locs : List Loc), va_P D vwCl [(x9, .inr (10, [.int 0, .int (nI ch), .int era, .int why, .int det, .int cau, .int (zI sv), .int (zI rj), .ref v9, .ref b9, .ref s9, .ref k9, .ref p9, .ref t9, .ref n9, .int (nI tn), .int (nI he), .int (nI en), .int (nI k), .int (zI iw), .int (zI dg)])), (v9, .inl (cy 0, 188, .inl v)), (n9, .inl (cy 0, 40, .inl x12_0))] H → va_D A [(x9, .inr (10, [.int 0, .int (nI ch), .int era, .int why, .int det, .int cau, .int (zI sv), .int (zI rj), .ref v9, .ref b9, .ref s9, .ref k9, .ref p9, .ref t9, .ref n9, .int (nI tn), .int (nI he), .int (nI en), .int (nI k), .int (zI iw), .int (zI dg)])), (v9, .inl (cy 0, 188, .inl v)), (n9, .inl (cy 0, 40, .inl x12_0))] → va_S A s.heap H locs → ∀ ls : Array Slot, lv_has ls 5 [(0, .ref x9), (1, .int (nI k))] → W p l e rmX6_writeBed s m ([.ref x9] : List Value).toArray below meth c H locs 0 0 Q (F0 m 12 ls []) := by
    intro F
    induction F with
    | zero =>
      intro k x12_0 hk hF ex12_0 H locs hP hD hS ls hl
      exact absurd hF (Nat.not_lt_zero _)
    | succ F ih12 =>
      intro k x12_0 hk hF ex12_0 H locs hP hD hS ls hl
      subst ex12_0
      refine lv_iload_n hx hb dX6_writeBed_12 rfl (lv_at hl 1 rfl) ?_
      refine lv_bipush (v := 24) hx hb dX6_writeBed_13 (by decide) ?_
      refine lv_icmp_ge (tgt := 96) hx hb dX6_writeBed_15 (by decide) (fun c_1 => ?_) (fun c_1 => ?_)
      · have hk2 : 24 ≤ k := (nI_leI (by omega) (by omega)).mp c_1
        obtain rfl : 24 = k := by omega
        refine lv_aload_n hx hb dX6_writeBed_96 rfl (lv_at hl 0 rfl) ?_
        refine va_get (D := D) (ci := 10) (v := .int (nI 24)) (C := RX6) (T := TX6) (N := 21) hx hb hts in_RX6 hown hK hP 0 rfl rfl 18 (by decide) (hts _ (List.mem_of_getElem? (i := 2) rfl)) (fun _ h9 => h9) rfl dX6_writeBed_97 ?_
        exact ziret hend hx hb hr hlk hK hP hD hS dX6_writeBed_100 rfl rfl
      · have hk2 : k < 24 := Nat.lt_of_not_le (fun z => c_1 (nI_le z (by omega)))
        refine lv_aload_n hx hb dX6_writeBed_18 rfl (lv_at hl 0 rfl) ?_
        refine va_get (D := D) (ci := 10) (v := .ref v9) (C := RX6) (T := TX6) (N := 21) hx hb hts in_RX6 hown hK hP 0 rfl rfl 8 (by decide) (hts _ (List.mem_of_getElem? (i := 3) rfl)) (fun _ h9 => h9) rfl dX6_writeBed_19 ?_
        refine lv_bipush (v := 10) hx hb dX6_writeBed_22 (by decide) ?_
        refine lv_iload_n hx hb dX6_writeBed_24 rfl (lv_at hl 1 rfl) ?_
        refine lv_iadd hx hb dX6_writeBed_25 ?_
        refine z_top (y := nI (10 + k)) (nI_add 10 k) ?_
        refine ziald 1 0 (10 + k) hx hb hK hP rfl rfl (by omega) (z_lt rfl) dX6_writeBed_26 ?_
        refine lv_istore_n (lv' := [(2, .int (v (10 + k))), (0, .ref x9), (1, .int (nI k))]) hx hb dX6_writeBed_27 rfl hl (by decide) rfl (fun ls hl => ?_)
        refine lv_iload_n hx hb dX6_writeBed_28 rfl (lv_at hl 0 rfl) ?_
        refine lv_if_ne (tgt := 37) hx hb dX6_writeBed_29 (by decide) (fun c_2 => ?_) (fun c_2 => ?_)
        · refine lv_bipush (v := 48) hx hb dX6_writeBed_37 (by decide) ?_
          refine lv_iload_n hx hb dX6_writeBed_39 rfl (lv_at hl 0 rfl) ?_
          refine lv_iadd hx hb dX6_writeBed_40 ?_
          refine lv_istore_n (lv' := [(3, .int (48 + (v (10 + k)))), (2, .int (v (10 + k))), (0, .ref x9), (1, .int (nI k))]) hx hb dX6_writeBed_41 rfl hl (by decide) rfl (fun ls hl => ?_)
          refine lv_iload_n hx hb dX6_writeBed_42 rfl (lv_at hl 1 rfl) ?_
          refine lv_if_ne (tgt := 51) hx hb dX6_writeBed_43 (by decide) (fun c_3 => ?_) (fun c_3 => ?_)
          · refine lv_bipush (v := 97) hx hb dX6_writeBed_51 (by decide) ?_
            refine lv_iload_n hx hb dX6_writeBed_53 rfl (lv_at hl 1 rfl) ?_
            refine lv_iadd hx hb dX6_writeBed_54 ?_
            refine lv_iconst (v := 1) hx hb dX6_writeBed_55 (by decide) ?_
            refine lv_isub hx hb dX6_writeBed_56 ?_
            refine lv_istore (lv' := [(4, .int ((97 + (v (10 + k))) - 1)), (3, .int (48 + (v (10 + k)))), (2, .int (v (10 + k))), (0, .ref x9), (1, .int (nI k))]) hx hb dX6_writeBed_57 hl (by decide) rfl (fun ls hl => ?_)
            refine lv_aload_n hx hb dX6_writeBed_59 rfl (lv_at hl 3 rfl) ?_
            refine lv_aload_n hx hb dX6_writeBed_60 rfl (lv_at hl 3 rfl) ?_
            refine lv_iload_n hx hb dX6_writeBed_61 rfl (lv_at hl 4 rfl) ?_
            refine zcV (As := [.int (nI k)]) (rest := [.ref x9]) [0, 1] 0 hg.1 ⟨hx, hb, hml, hown, hts⟩ (c_X6_isOn hg l D cy x9 0 ch era why det cau sv rj v9 b9 s9 k9 p9 t9 n9 tn he en k iw dg v (nI k)) (cwV 1 hts gX6_writeBed_X6_isOn rfl rfl rfl (by decide +kernel) ⟨Nat.le_of_ble_eq_true rfl, Nat.le_of_ble_eq_true rfl⟩) hG hK hP hD hS hA rfl rfl rfl rfl rfl rfl hl.1 rfl (Nat.le_of_ble_eq_true rfl) dX6_writeBed_62 ⟨Nat.zero_le _, Nat.zero_le _⟩ (fun H locs hP hD hS => ?_)
            have hP : va_P D vwCl [(x9, .inr (10, [.int 0, .int (nI ch), .int era, .int why, .int det, .int cau, .int (zI sv), .int (zI rj), .ref v9, .ref b9, .ref s9, .ref k9, .ref p9, .ref t9, .ref n9, .int (nI tn), .int (nI he), .int (nI en), .int (nI k), .int (zI iw), .int (zI dg)])), (v9, .inl (cy 0, 188, .inl v)), (n9, .inl (cy 0, 40, .inl (zwb6 v lx k)))] H := hP
            have hD : va_D A [(x9, .inr (10, [.int 0, .int (nI ch), .int era, .int why, .int det, .int cau, .int (zI sv), .int (zI rj), .ref v9, .ref b9, .ref s9, .ref k9, .ref p9, .ref t9, .ref n9, .int (nI tn), .int (nI he), .int (nI en), .int (nI k), .int (zI iw), .int (zI dg)])), (v9, .inl (cy 0, 188, .inl v)), (n9, .inl (cy 0, 40, .inl (zwb6 v lx k)))] := hD
            refine lv_if_ne (tgt := 73) hx hb dX6_writeBed_65 (by decide) (fun c_4 => ?_) (fun c_4 => ?_)
            · replace c_4 := zI1 c_4
              refine lv_aload_n hx hb dX6_writeBed_73 rfl (lv_at hl 3 rfl) ?_
              refine lv_iload_n hx hb dX6_writeBed_74 rfl (lv_at hl 4 rfl) ?_
              refine zcV (As := [.int (nI k)]) (rest := [.ref x9]) [0, 1] 0 hg.1 ⟨hx, hb, hml, hown, hts⟩ (c_X6_isHeld hg l D cy x9 0 ch era why det cau sv rj v9 b9 s9 k9 p9 t9 n9 tn he en k iw dg v (nI k)) (cwV 1 hts gX6_writeBed_X6_isHeld rfl rfl rfl (by decide +kernel) ⟨Nat.le_of_ble_eq_true rfl, Nat.le_of_ble_eq_true rfl⟩) hG hK hP hD hS hA rfl rfl rfl rfl rfl rfl hl.1 rfl (Nat.le_of_ble_eq_true rfl) dX6_writeBed_75 ⟨Nat.zero_le _, Nat.zero_le _⟩ (fun H locs hP hD hS => ?_)
              have hP : va_P D vwCl [(x9, .inr (10, [.int 0, .int (nI ch), .int era, .int why, .int det, .int cau, .int (zI sv), .int (zI rj), .ref v9, .ref b9, .ref s9, .ref k9, .ref p9, .ref t9, .ref n9, .int (nI tn), .int (nI he), .int (nI en), .int (nI k), .int (zI iw), .int (zI dg)])), (v9, .inl (cy 0, 188, .inl v)), (n9, .inl (cy 0, 40, .inl (zwb6 v lx k)))] H := hP
              have hD : va_D A [(x9, .inr (10, [.int 0, .int (nI ch), .int era, .int why, .int det, .int cau, .int (zI sv), .int (zI rj), .ref v9, .ref b9, .ref s9, .ref k9, .ref p9, .ref t9, .ref n9, .int (nI tn), .int (nI he), .int (nI en), .int (nI k), .int (zI iw), .int (zI dg)])), (v9, .inl (cy 0, 188, .inl v)), (n9, .inl (cy 0, 40, .inl (zwb6 v lx k)))] := hD
              refine lv_if_eq (tgt := 86) hx hb dX6_writeBed_78 (by decide) (fun c_5 => ?_) (fun c_5 => ?_)
              · replace c_5 := zI0 c_5
                refine lv_iload_n hx hb dX6_writeBed_86 rfl (lv_at hl 1 rfl) ?_
                refine zcV (As := [.int (48 + (v (10 + k)))]) (rest := []) [0, 2] 0 hg.1 ⟨hx, hb, hml, hown, hts⟩ (c_X6_writes hg l D cy x9 0 ch era why det cau sv rj v9 b9 s9 k9 p9 t9 n9 tn he en k iw dg (zwb6 v lx k) (48 + (v (10 + k))) (by omega)) (cwV 1 hts gX6_writeBed_X6_writes rfl rfl rfl (by decide +kernel) ⟨Nat.le_of_ble_eq_true rfl, Nat.le_of_ble_eq_true rfl⟩) hG hK hP hD hS hA rfl rfl (Eq.trans (b := [x9, n9]) rfl rfl) rfl rfl rfl hl.1 rfl (Nat.le_of_ble_eq_true rfl) dX6_writeBed_87 ⟨Nat.zero_le _, Nat.zero_le _⟩ (fun H locs hP hD hS => ?_)
                have hP : va_P D vwCl [(x9, .inr (10, [.int 0, .int (nI ch), .int era, .int why, .int det, .int cau, .int (zI sv), .int (zI rj), .ref v9, .ref b9, .ref s9, .ref k9, .ref p9, .ref t9, .ref n9, .int (nI tn), .int (nI he), .int (nI en), .int (nI (k + 1)), .int (zI iw), .int (zI dg)])), (v9, .inl (cy 0, 188, .inl v)), (n9, .inl (cy 0, 40, .inl (upd (zwb6 v lx k) k (48 + (v (10 + k))))))] H := hP
                have hD : va_D A [(x9, .inr (10, [.int 0, .int (nI ch), .int era, .int why, .int det, .int cau, .int (zI sv), .int (zI rj), .ref v9, .ref b9, .ref s9, .ref k9, .ref p9, .ref t9, .ref n9, .int (nI tn), .int (nI he), .int (nI en), .int (nI (k + 1)), .int (zI iw), .int (zI dg)])), (v9, .inl (cy 0, 188, .inl v)), (n9, .inl (cy 0, 40, .inl (upd (zwb6 v lx k) k (48 + (v (10 + k))))))] := hD
                refine lv_iinc (v := nI (k + 1)) (lv' := [(1, .int (nI (k + 1))), (4, .int ((97 + (v (10 + k))) - 1)), (3, .int (48 + (v (10 + k)))), (2, .int (v (10 + k))), (0, .ref x9)]) hx hb dX6_writeBed_90 hl (k := 4) rfl (by rw [show Int32.ofInt 1 = nI 1 from rfl, nI_add]) (by decide) rfl (fun ls hl => ?_)
                refine lv_goto (tgt := 12) hx hb dX6_writeBed_93 (by decide) ?_
                exact ih12 (k + 1) (upd (zwb6 v lx k) k (48 + (v (10 + k)))) (by omega) (by omega) (by first | (simp only [zwb6, zsn6, c_1, c_2, c_3, c_4, c_5, decide_true, decide_false, Bool.not_true, Bool.not_false, Bool.and_true, Bool.true_and, Bool.and_false, Bool.false_and, Bool.or_false, Bool.false_or, Bool.or_true, Bool.true_or, ↓reduceIte, Bool.false_eq_true, not_true_eq_false, not_false_eq_true, and_self]; done) | (simp [zwb6, zsn6, c_1, c_2, c_3, c_4, c_5]; done) | (simp_all [zwb6, zsn6]; done)) H locs hP hD hS ls (lv_sub hl [4, 0] rfl)
              · replace c_5 := zI1 c_5
                refine lv_iload hx hb dX6_writeBed_81 (lv_at hl 0 rfl) ?_
                refine lv_goto (tgt := 87) hx hb dX6_writeBed_83 (by decide) ?_
                refine zcV (As := [.int ((97 + (v (10 + k))) - 1)]) (rest := []) [0, 2] 0 hg.1 ⟨hx, hb, hml, hown, hts⟩ (c_X6_writes hg l D cy x9 0 ch era why det cau sv rj v9 b9 s9 k9 p9 t9 n9 tn he en k iw dg (zwb6 v lx k) ((97 + (v (10 + k))) - 1) (by omega)) (cwV 1 hts gX6_writeBed_X6_writes rfl rfl rfl (by decide +kernel) ⟨Nat.le_of_ble_eq_true rfl, Nat.le_of_ble_eq_true rfl⟩) hG hK hP hD hS hA rfl rfl (Eq.trans (b := [x9, n9]) rfl rfl) rfl rfl rfl hl.1 rfl (Nat.le_of_ble_eq_true rfl) dX6_writeBed_87 ⟨Nat.zero_le _, Nat.zero_le _⟩ (fun H locs hP hD hS => ?_)
                have hP : va_P D vwCl [(x9, .inr (10, [.int 0, .int (nI ch), .int era, .int why, .int det, .int cau, .int (zI sv), .int (zI rj), .ref v9, .ref b9, .ref s9, .ref k9, .ref p9, .ref t9, .ref n9, .int (nI tn), .int (nI he), .int (nI en), .int (nI (k + 1)), .int (zI iw), .int (zI dg)])), (v9, .inl (cy 0, 188, .inl v)), (n9, .inl (cy 0, 40, .inl (upd (zwb6 v lx k) k ((97 + (v (10 + k))) - 1))))] H := hP
                have hD : va_D A [(x9, .inr (10, [.int 0, .int (nI ch), .int era, .int why, .int det, .int cau, .int (zI sv), .int (zI rj), .ref v9, .ref b9, .ref s9, .ref k9, .ref p9, .ref t9, .ref n9, .int (nI tn), .int (nI he), .int (nI en), .int (nI (k + 1)), .int (zI iw), .int (zI dg)])), (v9, .inl (cy 0, 188, .inl v)), (n9, .inl (cy 0, 40, .inl (upd (zwb6 v lx k) k ((97 + (v (10 + k))) - 1))))] := hD
                refine lv_iinc (v := nI (k + 1)) (lv' := [(1, .int (nI (k + 1))), (4, .int ((97 + (v (10 + k))) - 1)), (3, .int (48 + (v (10 + k)))), (2, .int (v (10 + k))), (0, .ref x9)]) hx hb dX6_writeBed_90 hl (k := 4) rfl (by rw [show Int32.ofInt 1 = nI 1 from rfl, nI_add]) (by decide) rfl (fun ls hl => ?_)
                refine lv_goto (tgt := 12) hx hb dX6_writeBed_93 (by decide) ?_
                exact ih12 (k + 1) (upd (zwb6 v lx k) k ((97 + (v (10 + k))) - 1)) (by omega) (by omega) (by first | (simp only [zwb6, zsn6, c_1, c_2, c_3, c_4, c_5, decide_true, decide_false, Bool.not_true, Bool.not_false, Bool.and_true, Bool.true_and, Bool.and_false, Bool.false_and, Bool.or_false, Bool.false_or, Bool.or_true, Bool.true_or, ↓reduceIte, Bool.false_eq_true, not_true_eq_false, not_false_eq_true, and_self]; done) | (simp [zwb6, zsn6, c_1, c_2, c_3, c_4, c_5]; done) | (simp_all [zwb6, zsn6]; done)) H locs hP hD hS ls (lv_sub hl [4, 0] rfl)
            · replace c_4 := zI0 c_4
              refine lv_bipush (v := 46) hx hb dX6_writeBed_68 (by decide) ?_
              refine lv_goto (tgt := 87) hx hb dX6_writeBed_70 (by decide) ?_
              refine zcV (As := [.int 46]) (rest := []) [0, 2] 0 hg.1 ⟨hx, hb, hml, hown, hts⟩ (c_X6_writes hg l D cy x9 0 ch era why det cau sv rj v9 b9 s9 k9 p9 t9 n9 tn he en k iw dg (zwb6 v lx k) 46 (by omega)) (cwV 1 hts gX6_writeBed_X6_writes rfl rfl rfl (by decide +kernel) ⟨Nat.le_of_ble_eq_true rfl, Nat.le_of_ble_eq_true rfl⟩) hG hK hP hD hS hA rfl rfl (Eq.trans (b := [x9, n9]) rfl rfl) rfl rfl rfl hl.1 rfl (Nat.le_of_ble_eq_true rfl) dX6_writeBed_87 ⟨Nat.zero_le _, Nat.zero_le _⟩ (fun H locs hP hD hS => ?_)
              have hP : va_P D vwCl [(x9, .inr (10, [.int 0, .int (nI ch), .int era, .int why, .int det, .int cau, .int (zI sv), .int (zI rj), .ref v9, .ref b9, .ref s9, .ref k9, .ref p9, .ref t9, .ref n9, .int (nI tn), .int (nI he), .int (nI en), .int (nI (k + 1)), .int (zI iw), .int (zI dg)])), (v9, .inl (cy 0, 188, .inl v)), (n9, .inl (cy 0, 40, .inl (upd (zwb6 v lx k) k 46)))] H := hP
              have hD : va_D A [(x9, .inr (10, [.int 0, .int (nI ch), .int era, .int why, .int det, .int cau, .int (zI sv), .int (zI rj), .ref v9, .ref b9, .ref s9, .ref k9, .ref p9, .ref t9, .ref n9, .int (nI tn), .int (nI he), .int (nI en), .int (nI (k + 1)), .int (zI iw), .int (zI dg)])), (v9, .inl (cy 0, 188, .inl v)), (n9, .inl (cy 0, 40, .inl (upd (zwb6 v lx k) k 46)))] := hD
              refine lv_iinc (v := nI (k + 1)) (lv' := [(1, .int (nI (k + 1))), (4, .int ((97 + (v (10 + k))) - 1)), (3, .int (48 + (v (10 + k)))), (2, .int (v (10 + k))), (0, .ref x9)]) hx hb dX6_writeBed_90 hl (k := 4) rfl (by rw [show Int32.ofInt 1 = nI 1 from rfl, nI_add]) (by decide) rfl (fun ls hl => ?_)
              refine lv_goto (tgt := 12) hx hb dX6_writeBed_93 (by decide) ?_
              exact ih12 (k + 1) (upd (zwb6 v lx k) k 46) (by omega) (by omega) (by first | (simp only [zwb6, zsn6, c_1, c_2, c_3, c_4, decide_true, decide_false, Bool.not_true, Bool.not_false, Bool.and_true, Bool.true_and, Bool.and_false, Bool.false_and, Bool.or_false, Bool.false_or, Bool.or_true, Bool.true_or, ↓reduceIte, Bool.false_eq_true, not_true_eq_false, not_false_eq_true, and_self]; done) | (simp [zwb6, zsn6, c_1, c_2, c_3, c_4]; done) | (simp_all [zwb6, zsn6]; done)) H locs hP hD hS ls (lv_sub hl [4, 0] rfl)
          · refine lv_bipush (v := 104) hx hb dX6_writeBed_46 (by decide) ?_
            refine lv_goto (tgt := 57) hx hb dX6_writeBed_48 (by decide) ?_
            refine lv_istore (lv' := [(4, .int 104), (3, .int (48 + (v (10 + k)))), (2, .int (v (10 + k))), (0, .ref x9), (1, .int (nI k))]) hx hb dX6_writeBed_57 hl (by decide) rfl (fun ls hl => ?_)
            refine lv_aload_n hx hb dX6_writeBed_59 rfl (lv_at hl 3 rfl) ?_
            refine lv_aload_n hx hb dX6_writeBed_60 rfl (lv_at hl 3 rfl) ?_
            refine lv_iload_n hx hb dX6_writeBed_61 rfl (lv_at hl 4 rfl) ?_
            refine zcV (As := [.int (nI k)]) (rest := [.ref x9]) [0, 1] 0 hg.1 ⟨hx, hb, hml, hown, hts⟩ (c_X6_isOn hg l D cy x9 0 ch era why det cau sv rj v9 b9 s9 k9 p9 t9 n9 tn he en k iw dg v (nI k)) (cwV 1 hts gX6_writeBed_X6_isOn rfl rfl rfl (by decide +kernel) ⟨Nat.le_of_ble_eq_true rfl, Nat.le_of_ble_eq_true rfl⟩) hG hK hP hD hS hA rfl rfl rfl rfl rfl rfl hl.1 rfl (Nat.le_of_ble_eq_true rfl) dX6_writeBed_62 ⟨Nat.zero_le _, Nat.zero_le _⟩ (fun H locs hP hD hS => ?_)
            have hP : va_P D vwCl [(x9, .inr (10, [.int 0, .int (nI ch), .int era, .int why, .int det, .int cau, .int (zI sv), .int (zI rj), .ref v9, .ref b9, .ref s9, .ref k9, .ref p9, .ref t9, .ref n9, .int (nI tn), .int (nI he), .int (nI en), .int (nI k), .int (zI iw), .int (zI dg)])), (v9, .inl (cy 0, 188, .inl v)), (n9, .inl (cy 0, 40, .inl (zwb6 v lx k)))] H := hP
            have hD : va_D A [(x9, .inr (10, [.int 0, .int (nI ch), .int era, .int why, .int det, .int cau, .int (zI sv), .int (zI rj), .ref v9, .ref b9, .ref s9, .ref k9, .ref p9, .ref t9, .ref n9, .int (nI tn), .int (nI he), .int (nI en), .int (nI k), .int (zI iw), .int (zI dg)])), (v9, .inl (cy 0, 188, .inl v)), (n9, .inl (cy 0, 40, .inl (zwb6 v lx k)))] := hD
            refine lv_if_ne (tgt := 73) hx hb dX6_writeBed_65 (by decide) (fun c_6 => ?_) (fun c_6 => ?_)
            · replace c_6 := zI1 c_6
              refine lv_aload_n hx hb dX6_writeBed_73 rfl (lv_at hl 3 rfl) ?_
              refine lv_iload_n hx hb dX6_writeBed_74 rfl (lv_at hl 4 rfl) ?_
              refine zcV (As := [.int (nI k)]) (rest := [.ref x9]) [0, 1] 0 hg.1 ⟨hx, hb, hml, hown, hts⟩ (c_X6_isHeld hg l D cy x9 0 ch era why det cau sv rj v9 b9 s9 k9 p9 t9 n9 tn he en k iw dg v (nI k)) (cwV 1 hts gX6_writeBed_X6_isHeld rfl rfl rfl (by decide +kernel) ⟨Nat.le_of_ble_eq_true rfl, Nat.le_of_ble_eq_true rfl⟩) hG hK hP hD hS hA rfl rfl rfl rfl rfl rfl hl.1 rfl (Nat.le_of_ble_eq_true rfl) dX6_writeBed_75 ⟨Nat.zero_le _, Nat.zero_le _⟩ (fun H locs hP hD hS => ?_)
              have hP : va_P D vwCl [(x9, .inr (10, [.int 0, .int (nI ch), .int era, .int why, .int det, .int cau, .int (zI sv), .int (zI rj), .ref v9, .ref b9, .ref s9, .ref k9, .ref p9, .ref t9, .ref n9, .int (nI tn), .int (nI he), .int (nI en), .int (nI k), .int (zI iw), .int (zI dg)])), (v9, .inl (cy 0, 188, .inl v)), (n9, .inl (cy 0, 40, .inl (zwb6 v lx k)))] H := hP
              have hD : va_D A [(x9, .inr (10, [.int 0, .int (nI ch), .int era, .int why, .int det, .int cau, .int (zI sv), .int (zI rj), .ref v9, .ref b9, .ref s9, .ref k9, .ref p9, .ref t9, .ref n9, .int (nI tn), .int (nI he), .int (nI en), .int (nI k), .int (zI iw), .int (zI dg)])), (v9, .inl (cy 0, 188, .inl v)), (n9, .inl (cy 0, 40, .inl (zwb6 v lx k)))] := hD
              refine lv_if_eq (tgt := 86) hx hb dX6_writeBed_78 (by decide) (fun c_7 => ?_) (fun c_7 => ?_)
              · replace c_7 := zI0 c_7
                refine lv_iload_n hx hb dX6_writeBed_86 rfl (lv_at hl 1 rfl) ?_
                refine zcV (As := [.int (48 + (v (10 + k)))]) (rest := []) [0, 2] 0 hg.1 ⟨hx, hb, hml, hown, hts⟩ (c_X6_writes hg l D cy x9 0 ch era why det cau sv rj v9 b9 s9 k9 p9 t9 n9 tn he en k iw dg (zwb6 v lx k) (48 + (v (10 + k))) (by omega)) (cwV 1 hts gX6_writeBed_X6_writes rfl rfl rfl (by decide +kernel) ⟨Nat.le_of_ble_eq_true rfl, Nat.le_of_ble_eq_true rfl⟩) hG hK hP hD hS hA rfl rfl (Eq.trans (b := [x9, n9]) rfl rfl) rfl rfl rfl hl.1 rfl (Nat.le_of_ble_eq_true rfl) dX6_writeBed_87 ⟨Nat.zero_le _, Nat.zero_le _⟩ (fun H locs hP hD hS => ?_)
                have hP : va_P D vwCl [(x9, .inr (10, [.int 0, .int (nI ch), .int era, .int why, .int det, .int cau, .int (zI sv), .int (zI rj), .ref v9, .ref b9, .ref s9, .ref k9, .ref p9, .ref t9, .ref n9, .int (nI tn), .int (nI he), .int (nI en), .int (nI (k + 1)), .int (zI iw), .int (zI dg)])), (v9, .inl (cy 0, 188, .inl v)), (n9, .inl (cy 0, 40, .inl (upd (zwb6 v lx k) k (48 + (v (10 + k))))))] H := hP
                have hD : va_D A [(x9, .inr (10, [.int 0, .int (nI ch), .int era, .int why, .int det, .int cau, .int (zI sv), .int (zI rj), .ref v9, .ref b9, .ref s9, .ref k9, .ref p9, .ref t9, .ref n9, .int (nI tn), .int (nI he), .int (nI en), .int (nI (k + 1)), .int (zI iw), .int (zI dg)])), (v9, .inl (cy 0, 188, .inl v)), (n9, .inl (cy 0, 40, .inl (upd (zwb6 v lx k) k (48 + (v (10 + k))))))] := hD
                refine lv_iinc (v := nI (k + 1)) (lv' := [(1, .int (nI (k + 1))), (4, .int 104), (3, .int (48 + (v (10 + k)))), (2, .int (v (10 + k))), (0, .ref x9)]) hx hb dX6_writeBed_90 hl (k := 4) rfl (by rw [show Int32.ofInt 1 = nI 1 from rfl, nI_add]) (by decide) rfl (fun ls hl => ?_)
                refine lv_goto (tgt := 12) hx hb dX6_writeBed_93 (by decide) ?_
                exact ih12 (k + 1) (upd (zwb6 v lx k) k (48 + (v (10 + k)))) (by omega) (by omega) (by first | (simp only [zwb6, zsn6, c_1, c_2, c_3, c_6, c_7, decide_true, decide_false, Bool.not_true, Bool.not_false, Bool.and_true, Bool.true_and, Bool.and_false, Bool.false_and, Bool.or_false, Bool.false_or, Bool.or_true, Bool.true_or, ↓reduceIte, Bool.false_eq_true, not_true_eq_false, not_false_eq_true, and_self]; done) | (simp [zwb6, zsn6, c_1, c_2, c_3, c_6, c_7]; done) | (simp_all [zwb6, zsn6]; done)) H locs hP hD hS ls (lv_sub hl [4, 0] rfl)
              · replace c_7 := zI1 c_7
                refine lv_iload hx hb dX6_writeBed_81 (lv_at hl 0 rfl) ?_
                refine lv_goto (tgt := 87) hx hb dX6_writeBed_83 (by decide) ?_
                refine zcV (As := [.int 104]) (rest := []) [0, 2] 0 hg.1 ⟨hx, hb, hml, hown, hts⟩ (c_X6_writes hg l D cy x9 0 ch era why det cau sv rj v9 b9 s9 k9 p9 t9 n9 tn he en k iw dg (zwb6 v lx k) 104 (by omega)) (cwV 1 hts gX6_writeBed_X6_writes rfl rfl rfl (by decide +kernel) ⟨Nat.le_of_ble_eq_true rfl, Nat.le_of_ble_eq_true rfl⟩) hG hK hP hD hS hA rfl rfl (Eq.trans (b := [x9, n9]) rfl rfl) rfl rfl rfl hl.1 rfl (Nat.le_of_ble_eq_true rfl) dX6_writeBed_87 ⟨Nat.zero_le _, Nat.zero_le _⟩ (fun H locs hP hD hS => ?_)
                have hP : va_P D vwCl [(x9, .inr (10, [.int 0, .int (nI ch), .int era, .int why, .int det, .int cau, .int (zI sv), .int (zI rj), .ref v9, .ref b9, .ref s9, .ref k9, .ref p9, .ref t9, .ref n9, .int (nI tn), .int (nI he), .int (nI en), .int (nI (k + 1)), .int (zI iw), .int (zI dg)])), (v9, .inl (cy 0, 188, .inl v)), (n9, .inl (cy 0, 40, .inl (upd (zwb6 v lx k) k 104)))] H := hP
                have hD : va_D A [(x9, .inr (10, [.int 0, .int (nI ch), .int era, .int why, .int det, .int cau, .int (zI sv), .int (zI rj), .ref v9, .ref b9, .ref s9, .ref k9, .ref p9, .ref t9, .ref n9, .int (nI tn), .int (nI he), .int (nI en), .int (nI (k + 1)), .int (zI iw), .int (zI dg)])), (v9, .inl (cy 0, 188, .inl v)), (n9, .inl (cy 0, 40, .inl (upd (zwb6 v lx k) k 104)))] := hD
                refine lv_iinc (v := nI (k + 1)) (lv' := [(1, .int (nI (k + 1))), (4, .int 104), (3, .int (48 + (v (10 + k)))), (2, .int (v (10 + k))), (0, .ref x9)]) hx hb dX6_writeBed_90 hl (k := 4) rfl (by rw [show Int32.ofInt 1 = nI 1 from rfl, nI_add]) (by decide) rfl (fun ls hl => ?_)
                refine lv_goto (tgt := 12) hx hb dX6_writeBed_93 (by decide) ?_
                exact ih12 (k + 1) (upd (zwb6 v lx k) k 104) (by omega) (by omega) (by first | (simp only [zwb6, zsn6, c_1, c_2, c_3, c_6, c_7, decide_true, decide_false, Bool.not_true, Bool.not_false, Bool.and_true, Bool.true_and, Bool.and_false, Bool.false_and, Bool.or_false, Bool.false_or, Bool.or_true, Bool.true_or, ↓reduceIte, Bool.false_eq_true, not_true_eq_false, not_false_eq_true, and_self]; done) | (simp [zwb6, zsn6, c_1, c_2, c_3, c_6, c_7]; done) | (simp_all [zwb6, zsn6]; done)) H locs hP hD hS ls (lv_sub hl [4, 0] rfl)
            · replace c_6 := zI0 c_6
              refine lv_bipush (v := 46) hx hb dX6_writeBed_68 (by decide) ?_
              refine lv_goto (tgt := 87) hx hb dX6_writeBed_70 (by decide) ?_
              refine zcV (As := [.int 46]) (rest := []) [0, 2] 0 hg.1 ⟨hx, hb, hml, hown, hts⟩ (c_X6_writes hg l D cy x9 0 ch era why det cau sv rj v9 b9 s9 k9 p9 t9 n9 tn he en k iw dg (zwb6 v lx k) 46 (by omega)) (cwV 1 hts gX6_writeBed_X6_writes rfl rfl rfl (by decide +kernel) ⟨Nat.le_of_ble_eq_true rfl, Nat.le_of_ble_eq_true rfl⟩) hG hK hP hD hS hA rfl rfl (Eq.trans (b := [x9, n9]) rfl rfl) rfl rfl rfl hl.1 rfl (Nat.le_of_ble_eq_true rfl) dX6_writeBed_87 ⟨Nat.zero_le _, Nat.zero_le _⟩ (fun H locs hP hD hS => ?_)
              have hP : va_P D vwCl [(x9, .inr (10, [.int 0, .int (nI ch), .int era, .int why, .int det, .int cau, .int (zI sv), .int (zI rj), .ref v9, .ref b9, .ref s9, .ref k9, .ref p9, .ref t9, .ref n9, .int (nI tn), .int (nI he), .int (nI en), .int (nI (k + 1)), .int (zI iw), .int (zI dg)])), (v9, .inl (cy 0, 188, .inl v)), (n9, .inl (cy 0, 40, .inl (upd (zwb6 v lx k) k 46)))] H := hP
              have hD : va_D A [(x9, .inr (10, [.int 0, .int (nI ch), .int era, .int why, .int det, .int cau, .int (zI sv), .int (zI rj), .ref v9, .ref b9, .ref s9, .ref k9, .ref p9, .ref t9, .ref n9, .int (nI tn), .int (nI he), .int (nI en), .int (nI (k + 1)), .int (zI iw), .int (zI dg)])), (v9, .inl (cy 0, 188, .inl v)), (n9, .inl (cy 0, 40, .inl (upd (zwb6 v lx k) k 46)))] := hD
              refine lv_iinc (v := nI (k + 1)) (lv' := [(1, .int (nI (k + 1))), (4, .int 104), (3, .int (48 + (v (10 + k)))), (2, .int (v (10 + k))), (0, .ref x9)]) hx hb dX6_writeBed_90 hl (k := 4) rfl (by rw [show Int32.ofInt 1 = nI 1 from rfl, nI_add]) (by decide) rfl (fun ls hl => ?_)
              refine lv_goto (tgt := 12) hx hb dX6_writeBed_93 (by decide) ?_
              exact ih12 (k + 1) (upd (zwb6 v lx k) k 46) (by omega) (by omega) (by first | (simp only [zwb6, zsn6, c_1, c_2, c_3, c_6, decide_true, decide_false, Bool.not_true, Bool.not_false, Bool.and_true, Bool.true_and, Bool.and_false, Bool.false_and, Bool.or_false, Bool.false_or, Bool.or_true, Bool.true_or, ↓reduceIte, Bool.false_eq_true, not_true_eq_false, not_false_eq_true, and_self]; done) | (simp [zwb6, zsn6, c_1, c_2, c_3, c_6]; done) | (simp_all [zwb6, zsn6]; done)) H locs hP hD hS ls (lv_sub hl [4, 0] rfl)
        · refine lv_bipush (v := 111) hx hb dX6_writeBed_32 (by decide) ?_
          refine lv_goto (tgt := 41) hx hb dX6_writeBed_34 (by decide) ?_
          refine lv_istore_n (lv' := [(3, .int 111), (2, .int (v (10 + k))), (0, .ref x9), (1, .int (nI k))]) hx hb dX6_writeBed_41 rfl hl (by decide) rfl (fun ls hl => ?_)
          refine lv_iload_n hx hb dX6_writeBed_42 rfl (lv_at hl 1 rfl) ?_
          refine lv_if_ne (tgt := 51) hx hb dX6_writeBed_43 (by decide) (fun c_8 => ?_) (fun c_8 => ?_)
          · refine lv_bipush (v := 97) hx hb dX6_writeBed_51 (by decide) ?_
            refine lv_iload_n hx hb dX6_writeBed_53 rfl (lv_at hl 1 rfl) ?_
            refine lv_iadd hx hb dX6_writeBed_54 ?_
            refine lv_iconst (v := 1) hx hb dX6_writeBed_55 (by decide) ?_
            refine lv_isub hx hb dX6_writeBed_56 ?_
            refine lv_istore (lv' := [(4, .int ((97 + (v (10 + k))) - 1)), (3, .int 111), (2, .int (v (10 + k))), (0, .ref x9), (1, .int (nI k))]) hx hb dX6_writeBed_57 hl (by decide) rfl (fun ls hl => ?_)
            refine lv_aload_n hx hb dX6_writeBed_59 rfl (lv_at hl 3 rfl) ?_
            refine lv_aload_n hx hb dX6_writeBed_60 rfl (lv_at hl 3 rfl) ?_
            refine lv_iload_n hx hb dX6_writeBed_61 rfl (lv_at hl 4 rfl) ?_
            refine zcV (As := [.int (nI k)]) (rest := [.ref x9]) [0, 1] 0 hg.1 ⟨hx, hb, hml, hown, hts⟩ (c_X6_isOn hg l D cy x9 0 ch era why det cau sv rj v9 b9 s9 k9 p9 t9 n9 tn he en k iw dg v (nI k)) (cwV 1 hts gX6_writeBed_X6_isOn rfl rfl rfl (by decide +kernel) ⟨Nat.le_of_ble_eq_true rfl, Nat.le_of_ble_eq_true rfl⟩) hG hK hP hD hS hA rfl rfl rfl rfl rfl rfl hl.1 rfl (Nat.le_of_ble_eq_true rfl) dX6_writeBed_62 ⟨Nat.zero_le _, Nat.zero_le _⟩ (fun H locs hP hD hS => ?_)
            have hP : va_P D vwCl [(x9, .inr (10, [.int 0, .int (nI ch), .int era, .int why, .int det, .int cau, .int (zI sv), .int (zI rj), .ref v9, .ref b9, .ref s9, .ref k9, .ref p9, .ref t9, .ref n9, .int (nI tn), .int (nI he), .int (nI en), .int (nI k), .int (zI iw), .int (zI dg)])), (v9, .inl (cy 0, 188, .inl v)), (n9, .inl (cy 0, 40, .inl (zwb6 v lx k)))] H := hP
            have hD : va_D A [(x9, .inr (10, [.int 0, .int (nI ch), .int era, .int why, .int det, .int cau, .int (zI sv), .int (zI rj), .ref v9, .ref b9, .ref s9, .ref k9, .ref p9, .ref t9, .ref n9, .int (nI tn), .int (nI he), .int (nI en), .int (nI k), .int (zI iw), .int (zI dg)])), (v9, .inl (cy 0, 188, .inl v)), (n9, .inl (cy 0, 40, .inl (zwb6 v lx k)))] := hD
            refine lv_if_ne (tgt := 73) hx hb dX6_writeBed_65 (by decide) (fun c_9 => ?_) (fun c_9 => ?_)
            · replace c_9 := zI1 c_9
              refine lv_aload_n hx hb dX6_writeBed_73 rfl (lv_at hl 3 rfl) ?_
              refine lv_iload_n hx hb dX6_writeBed_74 rfl (lv_at hl 4 rfl) ?_
              refine zcV (As := [.int (nI k)]) (rest := [.ref x9]) [0, 1] 0 hg.1 ⟨hx, hb, hml, hown, hts⟩ (c_X6_isHeld hg l D cy x9 0 ch era why det cau sv rj v9 b9 s9 k9 p9 t9 n9 tn he en k iw dg v (nI k)) (cwV 1 hts gX6_writeBed_X6_isHeld rfl rfl rfl (by decide +kernel) ⟨Nat.le_of_ble_eq_true rfl, Nat.le_of_ble_eq_true rfl⟩) hG hK hP hD hS hA rfl rfl rfl rfl rfl rfl hl.1 rfl (Nat.le_of_ble_eq_true rfl) dX6_writeBed_75 ⟨Nat.zero_le _, Nat.zero_le _⟩ (fun H locs hP hD hS => ?_)
              have hP : va_P D vwCl [(x9, .inr (10, [.int 0, .int (nI ch), .int era, .int why, .int det, .int cau, .int (zI sv), .int (zI rj), .ref v9, .ref b9, .ref s9, .ref k9, .ref p9, .ref t9, .ref n9, .int (nI tn), .int (nI he), .int (nI en), .int (nI k), .int (zI iw), .int (zI dg)])), (v9, .inl (cy 0, 188, .inl v)), (n9, .inl (cy 0, 40, .inl (zwb6 v lx k)))] H := hP
              have hD : va_D A [(x9, .inr (10, [.int 0, .int (nI ch), .int era, .int why, .int det, .int cau, .int (zI sv), .int (zI rj), .ref v9, .ref b9, .ref s9, .ref k9, .ref p9, .ref t9, .ref n9, .int (nI tn), .int (nI he), .int (nI en), .int (nI k), .int (zI iw), .int (zI dg)])), (v9, .inl (cy 0, 188, .inl v)), (n9, .inl (cy 0, 40, .inl (zwb6 v lx k)))] := hD
              refine lv_if_eq (tgt := 86) hx hb dX6_writeBed_78 (by decide) (fun c_10 => ?_) (fun c_10 => ?_)
              · replace c_10 := zI0 c_10
                refine lv_iload_n hx hb dX6_writeBed_86 rfl (lv_at hl 1 rfl) ?_
                refine zcV (As := [.int 111]) (rest := []) [0, 2] 0 hg.1 ⟨hx, hb, hml, hown, hts⟩ (c_X6_writes hg l D cy x9 0 ch era why det cau sv rj v9 b9 s9 k9 p9 t9 n9 tn he en k iw dg (zwb6 v lx k) 111 (by omega)) (cwV 1 hts gX6_writeBed_X6_writes rfl rfl rfl (by decide +kernel) ⟨Nat.le_of_ble_eq_true rfl, Nat.le_of_ble_eq_true rfl⟩) hG hK hP hD hS hA rfl rfl (Eq.trans (b := [x9, n9]) rfl rfl) rfl rfl rfl hl.1 rfl (Nat.le_of_ble_eq_true rfl) dX6_writeBed_87 ⟨Nat.zero_le _, Nat.zero_le _⟩ (fun H locs hP hD hS => ?_)
                have hP : va_P D vwCl [(x9, .inr (10, [.int 0, .int (nI ch), .int era, .int why, .int det, .int cau, .int (zI sv), .int (zI rj), .ref v9, .ref b9, .ref s9, .ref k9, .ref p9, .ref t9, .ref n9, .int (nI tn), .int (nI he), .int (nI en), .int (nI (k + 1)), .int (zI iw), .int (zI dg)])), (v9, .inl (cy 0, 188, .inl v)), (n9, .inl (cy 0, 40, .inl (upd (zwb6 v lx k) k 111)))] H := hP
                have hD : va_D A [(x9, .inr (10, [.int 0, .int (nI ch), .int era, .int why, .int det, .int cau, .int (zI sv), .int (zI rj), .ref v9, .ref b9, .ref s9, .ref k9, .ref p9, .ref t9, .ref n9, .int (nI tn), .int (nI he), .int (nI en), .int (nI (k + 1)), .int (zI iw), .int (zI dg)])), (v9, .inl (cy 0, 188, .inl v)), (n9, .inl (cy 0, 40, .inl (upd (zwb6 v lx k) k 111)))] := hD
                refine lv_iinc (v := nI (k + 1)) (lv' := [(1, .int (nI (k + 1))), (4, .int ((97 + (v (10 + k))) - 1)), (3, .int 111), (2, .int (v (10 + k))), (0, .ref x9)]) hx hb dX6_writeBed_90 hl (k := 4) rfl (by rw [show Int32.ofInt 1 = nI 1 from rfl, nI_add]) (by decide) rfl (fun ls hl => ?_)
                refine lv_goto (tgt := 12) hx hb dX6_writeBed_93 (by decide) ?_
                exact ih12 (k + 1) (upd (zwb6 v lx k) k 111) (by omega) (by omega) (by first | (simp only [zwb6, zsn6, c_1, c_2, c_8, c_9, c_10, decide_true, decide_false, Bool.not_true, Bool.not_false, Bool.and_true, Bool.true_and, Bool.and_false, Bool.false_and, Bool.or_false, Bool.false_or, Bool.or_true, Bool.true_or, ↓reduceIte, Bool.false_eq_true, not_true_eq_false, not_false_eq_true, and_self]; done) | (simp [zwb6, zsn6, c_1, c_2, c_8, c_9, c_10]; done) | (simp_all [zwb6, zsn6]; done)) H locs hP hD hS ls (lv_sub hl [4, 0] rfl)
              · replace c_10 := zI1 c_10
                refine lv_iload hx hb dX6_writeBed_81 (lv_at hl 0 rfl) ?_
                refine lv_goto (tgt := 87) hx hb dX6_writeBed_83 (by decide) ?_
                refine zcV (As := [.int ((97 + (v (10 + k))) - 1)]) (rest := []) [0, 2] 0 hg.1 ⟨hx, hb, hml, hown, hts⟩ (c_X6_writes hg l D cy x9 0 ch era why det cau sv rj v9 b9 s9 k9 p9 t9 n9 tn he en k iw dg (zwb6 v lx k) ((97 + (v (10 + k))) - 1) (by omega)) (cwV 1 hts gX6_writeBed_X6_writes rfl rfl rfl (by decide +kernel) ⟨Nat.le_of_ble_eq_true rfl, Nat.le_of_ble_eq_true rfl⟩) hG hK hP hD hS hA rfl rfl (Eq.trans (b := [x9, n9]) rfl rfl) rfl rfl rfl hl.1 rfl (Nat.le_of_ble_eq_true rfl) dX6_writeBed_87 ⟨Nat.zero_le _, Nat.zero_le _⟩ (fun H locs hP hD hS => ?_)
                have hP : va_P D vwCl [(x9, .inr (10, [.int 0, .int (nI ch), .int era, .int why, .int det, .int cau, .int (zI sv), .int (zI rj), .ref v9, .ref b9, .ref s9, .ref k9, .ref p9, .ref t9, .ref n9, .int (nI tn), .int (nI he), .int (nI en), .int (nI (k + 1)), .int (zI iw), .int (zI dg)])), (v9, .inl (cy 0, 188, .inl v)), (n9, .inl (cy 0, 40, .inl (upd (zwb6 v lx k) k ((97 + (v (10 + k))) - 1))))] H := hP
                have hD : va_D A [(x9, .inr (10, [.int 0, .int (nI ch), .int era, .int why, .int det, .int cau, .int (zI sv), .int (zI rj), .ref v9, .ref b9, .ref s9, .ref k9, .ref p9, .ref t9, .ref n9, .int (nI tn), .int (nI he), .int (nI en), .int (nI (k + 1)), .int (zI iw), .int (zI dg)])), (v9, .inl (cy 0, 188, .inl v)), (n9, .inl (cy 0, 40, .inl (upd (zwb6 v lx k) k ((97 + (v (10 + k))) - 1))))] := hD
                refine lv_iinc (v := nI (k + 1)) (lv' := [(1, .int (nI (k + 1))), (4, .int ((97 + (v (10 + k))) - 1)), (3, .int 111), (2, .int (v (10 + k))), (0, .ref x9)]) hx hb dX6_writeBed_90 hl (k := 4) rfl (by rw [show Int32.ofInt 1 = nI 1 from rfl, nI_add]) (by decide) rfl (fun ls hl => ?_)
                refine lv_goto (tgt := 12) hx hb dX6_writeBed_93 (by decide) ?_
                exact ih12 (k + 1) (upd (zwb6 v lx k) k ((97 + (v (10 + k))) - 1)) (by omega) (by omega) (by first | (simp only [zwb6, zsn6, c_1, c_2, c_8, c_9, c_10, decide_true, decide_false, Bool.not_true, Bool.not_false, Bool.and_true, Bool.true_and, Bool.and_false, Bool.false_and, Bool.or_false, Bool.false_or, Bool.or_true, Bool.true_or, ↓reduceIte, Bool.false_eq_true, not_true_eq_false, not_false_eq_true, and_self]; done) | (simp [zwb6, zsn6, c_1, c_2, c_8, c_9, c_10]; done) | (simp_all [zwb6, zsn6]; done)) H locs hP hD hS ls (lv_sub hl [4, 0] rfl)
            · replace c_9 := zI0 c_9
              refine lv_bipush (v := 46) hx hb dX6_writeBed_68 (by decide) ?_
              refine lv_goto (tgt := 87) hx hb dX6_writeBed_70 (by decide) ?_
              refine zcV (As := [.int 46]) (rest := []) [0, 2] 0 hg.1 ⟨hx, hb, hml, hown, hts⟩ (c_X6_writes hg l D cy x9 0 ch era why det cau sv rj v9 b9 s9 k9 p9 t9 n9 tn he en k iw dg (zwb6 v lx k) 46 (by omega)) (cwV 1 hts gX6_writeBed_X6_writes rfl rfl rfl (by decide +kernel) ⟨Nat.le_of_ble_eq_true rfl, Nat.le_of_ble_eq_true rfl⟩) hG hK hP hD hS hA rfl rfl (Eq.trans (b := [x9, n9]) rfl rfl) rfl rfl rfl hl.1 rfl (Nat.le_of_ble_eq_true rfl) dX6_writeBed_87 ⟨Nat.zero_le _, Nat.zero_le _⟩ (fun H locs hP hD hS => ?_)
              have hP : va_P D vwCl [(x9, .inr (10, [.int 0, .int (nI ch), .int era, .int why, .int det, .int cau, .int (zI sv), .int (zI rj), .ref v9, .ref b9, .ref s9, .ref k9, .ref p9, .ref t9, .ref n9, .int (nI tn), .int (nI he), .int (nI en), .int (nI (k + 1)), .int (zI iw), .int (zI dg)])), (v9, .inl (cy 0, 188, .inl v)), (n9, .inl (cy 0, 40, .inl (upd (zwb6 v lx k) k 46)))] H := hP
              have hD : va_D A [(x9, .inr (10, [.int 0, .int (nI ch), .int era, .int why, .int det, .int cau, .int (zI sv), .int (zI rj), .ref v9, .ref b9, .ref s9, .ref k9, .ref p9, .ref t9, .ref n9, .int (nI tn), .int (nI he), .int (nI en), .int (nI (k + 1)), .int (zI iw), .int (zI dg)])), (v9, .inl (cy 0, 188, .inl v)), (n9, .inl (cy 0, 40, .inl (upd (zwb6 v lx k) k 46)))] := hD
              refine lv_iinc (v := nI (k + 1)) (lv' := [(1, .int (nI (k + 1))), (4, .int ((97 + (v (10 + k))) - 1)), (3, .int 111), (2, .int (v (10 + k))), (0, .ref x9)]) hx hb dX6_writeBed_90 hl (k := 4) rfl (by rw [show Int32.ofInt 1 = nI 1 from rfl, nI_add]) (by decide) rfl (fun ls hl => ?_)
              refine lv_goto (tgt := 12) hx hb dX6_writeBed_93 (by decide) ?_
              exact ih12 (k + 1) (upd (zwb6 v lx k) k 46) (by omega) (by omega) (by first | (simp only [zwb6, zsn6, c_1, c_2, c_8, c_9, decide_true, decide_false, Bool.not_true, Bool.not_false, Bool.and_true, Bool.true_and, Bool.and_false, Bool.false_and, Bool.or_false, Bool.false_or, Bool.or_true, Bool.true_or, ↓reduceIte, Bool.false_eq_true, not_true_eq_false, not_false_eq_true, and_self]; done) | (simp [zwb6, zsn6, c_1, c_2, c_8, c_9]; done) | (simp_all [zwb6, zsn6]; done)) H locs hP hD hS ls (lv_sub hl [4, 0] rfl)
          · refine lv_bipush (v := 104) hx hb dX6_writeBed_46 (by decide) ?_
            refine lv_goto (tgt := 57) hx hb dX6_writeBed_48 (by decide) ?_
            refine lv_istore (lv' := [(4, .int 104), (3, .int 111), (2, .int (v (10 + k))), (0, .ref x9), (1, .int (nI k))]) hx hb dX6_writeBed_57 hl (by decide) rfl (fun ls hl => ?_)
            refine lv_aload_n hx hb dX6_writeBed_59 rfl (lv_at hl 3 rfl) ?_
            refine lv_aload_n hx hb dX6_writeBed_60 rfl (lv_at hl 3 rfl) ?_
            refine lv_iload_n hx hb dX6_writeBed_61 rfl (lv_at hl 4 rfl) ?_
            refine zcV (As := [.int (nI k)]) (rest := [.ref x9]) [0, 1] 0 hg.1 ⟨hx, hb, hml, hown, hts⟩ (c_X6_isOn hg l D cy x9 0 ch era why det cau sv rj v9 b9 s9 k9 p9 t9 n9 tn he en k iw dg v (nI k)) (cwV 1 hts gX6_writeBed_X6_isOn rfl rfl rfl (by decide +kernel) ⟨Nat.le_of_ble_eq_true rfl, Nat.le_of_ble_eq_true rfl⟩) hG hK hP hD hS hA rfl rfl rfl rfl rfl rfl hl.1 rfl (Nat.le_of_ble_eq_true rfl) dX6_writeBed_62 ⟨Nat.zero_le _, Nat.zero_le _⟩ (fun H locs hP hD hS => ?_)
            have hP : va_P D vwCl [(x9, .inr (10, [.int 0, .int (nI ch), .int era, .int why, .int det, .int cau, .int (zI sv), .int (zI rj), .ref v9, .ref b9, .ref s9, .ref k9, .ref p9, .ref t9, .ref n9, .int (nI tn), .int (nI he), .int (nI en), .int (nI k), .int (zI iw), .int (zI dg)])), (v9, .inl (cy 0, 188, .inl v)), (n9, .inl (cy 0, 40, .inl (zwb6 v lx k)))] H := hP
            have hD : va_D A [(x9, .inr (10, [.int 0, .int (nI ch), .int era, .int why, .int det, .int cau, .int (zI sv), .int (zI rj), .ref v9, .ref b9, .ref s9, .ref k9, .ref p9, .ref t9, .ref n9, .int (nI tn), .int (nI he), .int (nI en), .int (nI k), .int (zI iw), .int (zI dg)])), (v9, .inl (cy 0, 188, .inl v)), (n9, .inl (cy 0, 40, .inl (zwb6 v lx k)))] := hD
            refine lv_if_ne (tgt := 73) hx hb dX6_writeBed_65 (by decide) (fun c_11 => ?_) (fun c_11 => ?_)
            · replace c_11 := zI1 c_11
              refine lv_aload_n hx hb dX6_writeBed_73 rfl (lv_at hl 3 rfl) ?_
              refine lv_iload_n hx hb dX6_writeBed_74 rfl (lv_at hl 4 rfl) ?_
              refine zcV (As := [.int (nI k)]) (rest := [.ref x9]) [0, 1] 0 hg.1 ⟨hx, hb, hml, hown, hts⟩ (c_X6_isHeld hg l D cy x9 0 ch era why det cau sv rj v9 b9 s9 k9 p9 t9 n9 tn he en k iw dg v (nI k)) (cwV 1 hts gX6_writeBed_X6_isHeld rfl rfl rfl (by decide +kernel) ⟨Nat.le_of_ble_eq_true rfl, Nat.le_of_ble_eq_true rfl⟩) hG hK hP hD hS hA rfl rfl rfl rfl rfl rfl hl.1 rfl (Nat.le_of_ble_eq_true rfl) dX6_writeBed_75 ⟨Nat.zero_le _, Nat.zero_le _⟩ (fun H locs hP hD hS => ?_)
              have hP : va_P D vwCl [(x9, .inr (10, [.int 0, .int (nI ch), .int era, .int why, .int det, .int cau, .int (zI sv), .int (zI rj), .ref v9, .ref b9, .ref s9, .ref k9, .ref p9, .ref t9, .ref n9, .int (nI tn), .int (nI he), .int (nI en), .int (nI k), .int (zI iw), .int (zI dg)])), (v9, .inl (cy 0, 188, .inl v)), (n9, .inl (cy 0, 40, .inl (zwb6 v lx k)))] H := hP
              have hD : va_D A [(x9, .inr (10, [.int 0, .int (nI ch), .int era, .int why, .int det, .int cau, .int (zI sv), .int (zI rj), .ref v9, .ref b9, .ref s9, .ref k9, .ref p9, .ref t9, .ref n9, .int (nI tn), .int (nI he), .int (nI en), .int (nI k), .int (zI iw), .int (zI dg)])), (v9, .inl (cy 0, 188, .inl v)), (n9, .inl (cy 0, 40, .inl (zwb6 v lx k)))] := hD
              refine lv_if_eq (tgt := 86) hx hb dX6_writeBed_78 (by decide) (fun c_12 => ?_) (fun c_12 => ?_)
              · replace c_12 := zI0 c_12
                refine lv_iload_n hx hb dX6_writeBed_86 rfl (lv_at hl 1 rfl) ?_
                refine zcV (As := [.int 111]) (rest := []) [0, 2] 0 hg.1 ⟨hx, hb, hml, hown, hts⟩ (c_X6_writes hg l D cy x9 0 ch era why det cau sv rj v9 b9 s9 k9 p9 t9 n9 tn he en k iw dg (zwb6 v lx k) 111 (by omega)) (cwV 1 hts gX6_writeBed_X6_writes rfl rfl rfl (by decide +kernel) ⟨Nat.le_of_ble_eq_true rfl, Nat.le_of_ble_eq_true rfl⟩) hG hK hP hD hS hA rfl rfl (Eq.trans (b := [x9, n9]) rfl rfl) rfl rfl rfl hl.1 rfl (Nat.le_of_ble_eq_true rfl) dX6_writeBed_87 ⟨Nat.zero_le _, Nat.zero_le _⟩ (fun H locs hP hD hS => ?_)
                have hP : va_P D vwCl [(x9, .inr (10, [.int 0, .int (nI ch), .int era, .int why, .int det, .int cau, .int (zI sv), .int (zI rj), .ref v9, .ref b9, .ref s9, .ref k9, .ref p9, .ref t9, .ref n9, .int (nI tn), .int (nI he), .int (nI en), .int (nI (k + 1)), .int (zI iw), .int (zI dg)])), (v9, .inl (cy 0, 188, .inl v)), (n9, .inl (cy 0, 40, .inl (upd (zwb6 v lx k) k 111)))] H := hP
                have hD : va_D A [(x9, .inr (10, [.int 0, .int (nI ch), .int era, .int why, .int det, .int cau, .int (zI sv), .int (zI rj), .ref v9, .ref b9, .ref s9, .ref k9, .ref p9, .ref t9, .ref n9, .int (nI tn), .int (nI he), .int (nI en), .int (nI (k + 1)), .int (zI iw), .int (zI dg)])), (v9, .inl (cy 0, 188, .inl v)), (n9, .inl (cy 0, 40, .inl (upd (zwb6 v lx k) k 111)))] := hD
                refine lv_iinc (v := nI (k + 1)) (lv' := [(1, .int (nI (k + 1))), (4, .int 104), (3, .int 111), (2, .int (v (10 + k))), (0, .ref x9)]) hx hb dX6_writeBed_90 hl (k := 4) rfl (by rw [show Int32.ofInt 1 = nI 1 from rfl, nI_add]) (by decide) rfl (fun ls hl => ?_)
                refine lv_goto (tgt := 12) hx hb dX6_writeBed_93 (by decide) ?_
                exact ih12 (k + 1) (upd (zwb6 v lx k) k 111) (by omega) (by omega) (by first | (simp only [zwb6, zsn6, c_1, c_2, c_8, c_11, c_12, decide_true, decide_false, Bool.not_true, Bool.not_false, Bool.and_true, Bool.true_and, Bool.and_false, Bool.false_and, Bool.or_false, Bool.false_or, Bool.or_true, Bool.true_or, ↓reduceIte, Bool.false_eq_true, not_true_eq_false, not_false_eq_true, and_self]; done) | (simp [zwb6, zsn6, c_1, c_2, c_8, c_11, c_12]; done) | (simp_all [zwb6, zsn6]; done)) H locs hP hD hS ls (lv_sub hl [4, 0] rfl)
              · replace c_12 := zI1 c_12
                refine lv_iload hx hb dX6_writeBed_81 (lv_at hl 0 rfl) ?_
                refine lv_goto (tgt := 87) hx hb dX6_writeBed_83 (by decide) ?_
                refine zcV (As := [.int 104]) (rest := []) [0, 2] 0 hg.1 ⟨hx, hb, hml, hown, hts⟩ (c_X6_writes hg l D cy x9 0 ch era why det cau sv rj v9 b9 s9 k9 p9 t9 n9 tn he en k iw dg (zwb6 v lx k) 104 (by omega)) (cwV 1 hts gX6_writeBed_X6_writes rfl rfl rfl (by decide +kernel) ⟨Nat.le_of_ble_eq_true rfl, Nat.le_of_ble_eq_true rfl⟩) hG hK hP hD hS hA rfl rfl (Eq.trans (b := [x9, n9]) rfl rfl) rfl rfl rfl hl.1 rfl (Nat.le_of_ble_eq_true rfl) dX6_writeBed_87 ⟨Nat.zero_le _, Nat.zero_le _⟩ (fun H locs hP hD hS => ?_)
                have hP : va_P D vwCl [(x9, .inr (10, [.int 0, .int (nI ch), .int era, .int why, .int det, .int cau, .int (zI sv), .int (zI rj), .ref v9, .ref b9, .ref s9, .ref k9, .ref p9, .ref t9, .ref n9, .int (nI tn), .int (nI he), .int (nI en), .int (nI (k + 1)), .int (zI iw), .int (zI dg)])), (v9, .inl (cy 0, 188, .inl v)), (n9, .inl (cy 0, 40, .inl (upd (zwb6 v lx k) k 104)))] H := hP
                have hD : va_D A [(x9, .inr (10, [.int 0, .int (nI ch), .int era, .int why, .int det, .int cau, .int (zI sv), .int (zI rj), .ref v9, .ref b9, .ref s9, .ref k9, .ref p9, .ref t9, .ref n9, .int (nI tn), .int (nI he), .int (nI en), .int (nI (k + 1)), .int (zI iw), .int (zI dg)])), (v9, .inl (cy 0, 188, .inl v)), (n9, .inl (cy 0, 40, .inl (upd (zwb6 v lx k) k 104)))] := hD
                refine lv_iinc (v := nI (k + 1)) (lv' := [(1, .int (nI (k + 1))), (4, .int 104), (3, .int 111), (2, .int (v (10 + k))), (0, .ref x9)]) hx hb dX6_writeBed_90 hl (k := 4) rfl (by rw [show Int32.ofInt 1 = nI 1 from rfl, nI_add]) (by decide) rfl (fun ls hl => ?_)
                refine lv_goto (tgt := 12) hx hb dX6_writeBed_93 (by decide) ?_
                exact ih12 (k + 1) (upd (zwb6 v lx k) k 104) (by omega) (by omega) (by first | (simp only [zwb6, zsn6, c_1, c_2, c_8, c_11, c_12, decide_true, decide_false, Bool.not_true, Bool.not_false, Bool.and_true, Bool.true_and, Bool.and_false, Bool.false_and, Bool.or_false, Bool.false_or, Bool.or_true, Bool.true_or, ↓reduceIte, Bool.false_eq_true, not_true_eq_false, not_false_eq_true, and_self]; done) | (simp [zwb6, zsn6, c_1, c_2, c_8, c_11, c_12]; done) | (simp_all [zwb6, zsn6]; done)) H locs hP hD hS ls (lv_sub hl [4, 0] rfl)
            · replace c_11 := zI0 c_11
              refine lv_bipush (v := 46) hx hb dX6_writeBed_68 (by decide) ?_
              refine lv_goto (tgt := 87) hx hb dX6_writeBed_70 (by decide) ?_
              refine zcV (As := [.int 46]) (rest := []) [0, 2] 0 hg.1 ⟨hx, hb, hml, hown, hts⟩ (c_X6_writes hg l D cy x9 0 ch era why det cau sv rj v9 b9 s9 k9 p9 t9 n9 tn he en k iw dg (zwb6 v lx k) 46 (by omega)) (cwV 1 hts gX6_writeBed_X6_writes rfl rfl rfl (by decide +kernel) ⟨Nat.le_of_ble_eq_true rfl, Nat.le_of_ble_eq_true rfl⟩) hG hK hP hD hS hA rfl rfl (Eq.trans (b := [x9, n9]) rfl rfl) rfl rfl rfl hl.1 rfl (Nat.le_of_ble_eq_true rfl) dX6_writeBed_87 ⟨Nat.zero_le _, Nat.zero_le _⟩ (fun H locs hP hD hS => ?_)
              have hP : va_P D vwCl [(x9, .inr (10, [.int 0, .int (nI ch), .int era, .int why, .int det, .int cau, .int (zI sv), .int (zI rj), .ref v9, .ref b9, .ref s9, .ref k9, .ref p9, .ref t9, .ref n9, .int (nI tn), .int (nI he), .int (nI en), .int (nI (k + 1)), .int (zI iw), .int (zI dg)])), (v9, .inl (cy 0, 188, .inl v)), (n9, .inl (cy 0, 40, .inl (upd (zwb6 v lx k) k 46)))] H := hP
              have hD : va_D A [(x9, .inr (10, [.int 0, .int (nI ch), .int era, .int why, .int det, .int cau, .int (zI sv), .int (zI rj), .ref v9, .ref b9, .ref s9, .ref k9, .ref p9, .ref t9, .ref n9, .int (nI tn), .int (nI he), .int (nI en), .int (nI (k + 1)), .int (zI iw), .int (zI dg)])), (v9, .inl (cy 0, 188, .inl v)), (n9, .inl (cy 0, 40, .inl (upd (zwb6 v lx k) k 46)))] := hD
              refine lv_iinc (v := nI (k + 1)) (lv' := [(1, .int (nI (k + 1))), (4, .int 104), (3, .int 111), (2, .int (v (10 + k))), (0, .ref x9)]) hx hb dX6_writeBed_90 hl (k := 4) rfl (by rw [show Int32.ofInt 1 = nI 1 from rfl, nI_add]) (by decide) rfl (fun ls hl => ?_)
              refine lv_goto (tgt := 12) hx hb dX6_writeBed_93 (by decide) ?_
              exact ih12 (k + 1) (upd (zwb6 v lx k) k 46) (by omega) (by omega) (by first | (simp only [zwb6, zsn6, c_1, c_2, c_8, c_11, decide_true, decide_false, Bool.not_true, Bool.not_false, Bool.and_true, Bool.true_and, Bool.and_false, Bool.false_and, Bool.or_false, Bool.false_or, Bool.or_true, Bool.true_or, ↓reduceIte, Bool.false_eq_true, not_true_eq_false, not_false_eq_true, and_self]; done) | (simp [zwb6, zsn6, c_1, c_2, c_8, c_11]; done) | (simp_all [zwb6, zsn6]; done)) H locs hP hD hS ls (lv_sub hl [4, 0] rfl)
  exact L12 (24 - 0 + 1) 0 lx (by omega) (Nat.lt_succ_self _) (by rfl) H locs hP hD hS ls (lv_sub hl [1, 0] rfl)

abbrev rmX6_writeCourse_n : Room := { frames := 2, cells := 0, slots := 0, locals := 43 }
set_option maxHeartbeats 4000000 in
set_option maxRecDepth 100000 in
theorem c_X6_writeCourse_n {G : zG} (hg : zGN G) (l : Launch) (D : va_G) (cy : Nat → ClassId) (x9 : Nat) (th : Int32) (ch : Nat) (era : Int32) (why : Int32) (det : Int32) (cau : Int32) (sv : Bool) (rj : Bool) (v9 : Nat) (b9 : Nat) (s9 : Nat) (k9 : Nat) (p9 : Nat) (t9 : Nat) (n9 : Nat) (tn : Nat) (he : Nat) (en : Nat) (ln : Nat) (iw : Bool) (dg : Bool) (v : Nat → Int32) (lx : Nat → Int32) (cn : Nat) (ck : Nat) (w0 : Nat) (f0 : Nat) (y0 : Nat) (d0 : Nat) (hv5 : v 5 = nI cn) (hcn : cn ≤ 30) (hck : ck < cn) (hw0 : v (68 + 4 * ck) = nI w0) (hf0 : v (68 + 4 * ck + 1) = nI f0) (hy0 : v (68 + 4 * ck + 2) = nI y0) (hd0 : v (68 + 4 * ck + 3) = nI d0) (hwb : w0 < 100) (hfb : f0 < 10) (hyb : y0 < 1000) (hdb : d0 < 100) (hd1 : ¬ 0 < d0) : zM G D vwCl (zT cy) l yX6_writeCourse wsX6_writeCourse rmX6_writeCourse_n [.ref x9, .int (nI ck)] [(x9, .inr (10, [.int th, .int (nI ch), .int era, .int why, .int det, .int cau, .int (zI sv), .int (zI rj), .ref v9, .ref b9, .ref s9, .ref k9, .ref p9, .ref t9, .ref n9, .int (nI tn), .int (nI he), .int (nI en), .int (nI ln), .int (zI iw), .int (zI dg)])), (v9, .inl (cy 0, 188, .inl v)), (n9, .inl (cy 0, 40, .inl lx))] (some (.int (nI (0 + zln ck + 1 + zln w0 + 1 + zln f0 + 1 + zln y0)))) [(x9, .inr (10, [.int 0, .int (nI ch), .int era, .int why, .int det, .int cau, .int (zI sv), .int (zI rj), .ref v9, .ref b9, .ref s9, .ref k9, .ref p9, .ref t9, .ref n9, .int (nI tn), .int (nI he), .int (nI en), .int (nI (0 + zln ck + 1 + zln w0 + 1 + zln f0 + 1 + zln y0)), .int (zI iw), .int (zI dg)])), (v9, .inl (cy 0, 188, .inl v)), (n9, .inl (cy 0, 40, .inl (zlw (upd (zlw (upd (zlw (upd (zlw lx 0 ck) (0 + zln ck) 58) (0 + zln ck + 1) w0) (0 + zln ck + 1 + zln w0) 102) (0 + zln ck + 1 + zln w0 + 1) f0) (0 + zln ck + 1 + zln w0 + 1 + zln f0) 121) (0 + zln ck + 1 + zln w0 + 1 + zln f0 + 1) y0)))] := by
  refine zM_of (cc := cX6_writeCourse) (maxL := 3) (ret := (some .int)) (by decide) rfl (Nat.le_of_ble_eq_true rfl) ?_
  intro p e s m below meth c A Q hend hx hb hml hr hts hown hlk hG hK hP hD hA hS ls hl
  have hown : s.vm.findClass RX6 = some m.cls := hown
  have in_RX6 : ∀ w ∈ u_ws RX6 TX6 21, w ∈ wsX6_writeCourse := by decide +kernel
  have hl : lv_has ls 3 [(0, .ref x9), (1, .int (nI ck))] := hl
  refine lv_aload_n hx hb dX6_writeCourse_0 rfl (lv_at hl 0 rfl) ?_
  refine lv_aload_n hx hb dX6_writeCourse_1 rfl (lv_at hl 0 rfl) ?_
  refine lv_iload_n hx hb dX6_writeCourse_2 rfl (lv_at hl 1 rfl) ?_
  refine zcV (As := [.int (nI ck)]) (rest := [.ref x9]) [0, 1] 0 hg.1 ⟨hx, hb, hml, hown, hts⟩ (c_X6_isCourse hg l D cy x9 th ch era why det cau sv rj v9 b9 s9 k9 p9 t9 n9 tn he en ln iw dg v (nI ck)) (cwV 1 hts gX6_writeCourse_X6_isCourse rfl rfl rfl (by decide +kernel) ⟨Nat.le_of_ble_eq_true rfl, Nat.le_of_ble_eq_true rfl⟩) hG hK hP hD hS hA rfl rfl rfl rfl rfl rfl hl.1 rfl (Nat.le_of_ble_eq_true rfl) dX6_writeCourse_3 ⟨Nat.zero_le _, Nat.zero_le _⟩ (fun H locs hP hD hS => ?_)
  have hP : va_P D vwCl [(x9, .inr (10, [.int th, .int (nI ch), .int era, .int why, .int det, .int cau, .int (zI sv), .int (zI rj), .ref v9, .ref b9, .ref s9, .ref k9, .ref p9, .ref t9, .ref n9, .int (nI tn), .int (nI he), .int (nI en), .int (nI ln), .int (zI iw), .int (zI dg)])), (v9, .inl (cy 0, 188, .inl v)), (n9, .inl (cy 0, 40, .inl lx))] H := hP
  have hD : va_D A [(x9, .inr (10, [.int th, .int (nI ch), .int era, .int why, .int det, .int cau, .int (zI sv), .int (zI rj), .ref v9, .ref b9, .ref s9, .ref k9, .ref p9, .ref t9, .ref n9, .int (nI tn), .int (nI he), .int (nI en), .int (nI ln), .int (zI iw), .int (zI dg)])), (v9, .inl (cy 0, 188, .inl v)), (n9, .inl (cy 0, 40, .inl lx))] := hD
  refine lv_if_eq (tgt := 13) hx hb dX6_writeCourse_6 (by decide) (fun c_1 => ?_) (fun c_1 => ?_)
  · replace c_1 := zI0 c_1
    exact absurd ((show zic 0 (v 5 - 1) (nI ck) = true by rw [hv5]; exact zic_c (by omega) hck).symm.trans c_1) (by decide)
  · replace c_1 := zI1 c_1
    refine lv_iconst (v := 0) hx hb dX6_writeCourse_9 (by decide) ?_
    refine lv_goto (tgt := 14) hx hb dX6_writeCourse_10 (by decide) ?_
    refine va_put (D := D) (ci := 10) (v := .int 0) (ty := .int) (C := RX6) (T := TX6) (N := 21) hx hb hts in_RX6 tyX6 tyX6_ok nmX6 hown hK hP hD hS 0 rfl rfl 0 (by decide) (hts _ (List.mem_of_getElem? (i := 1) rfl)) (fun _ h9 => h9) rfl (by decide +kernel) rfl rfl (Nat.le_of_ble_eq_true rfl) dX6_writeCourse_14 (fun H locs hP hD hS => ?_)
    have hP : va_P D vwCl [(x9, .inr (10, [.int 0, .int (nI ch), .int era, .int why, .int det, .int cau, .int (zI sv), .int (zI rj), .ref v9, .ref b9, .ref s9, .ref k9, .ref p9, .ref t9, .ref n9, .int (nI tn), .int (nI he), .int (nI en), .int (nI ln), .int (zI iw), .int (zI dg)])), (v9, .inl (cy 0, 188, .inl v)), (n9, .inl (cy 0, 40, .inl lx))] H := hP
    have hD : va_D A [(x9, .inr (10, [.int 0, .int (nI ch), .int era, .int why, .int det, .int cau, .int (zI sv), .int (zI rj), .ref v9, .ref b9, .ref s9, .ref k9, .ref p9, .ref t9, .ref n9, .int (nI tn), .int (nI he), .int (nI en), .int (nI ln), .int (zI iw), .int (zI dg)])), (v9, .inl (cy 0, 188, .inl v)), (n9, .inl (cy 0, 40, .inl lx))] := hD
    refine lv_aload_n hx hb dX6_writeCourse_17 rfl (lv_at hl 0 rfl) ?_
    refine va_get (D := D) (ci := 10) (v := .int 0) (C := RX6) (T := TX6) (N := 21) hx hb hts in_RX6 hown hK hP 0 rfl rfl 0 (by decide) (hts _ (List.mem_of_getElem? (i := 1) rfl)) (fun _ h9 => h9) rfl dX6_writeCourse_18 ?_
    refine lv_if_eq (tgt := 26) hx hb dX6_writeCourse_21 (by decide) (fun c_2 => ?_) (fun c_2 => ?_)
    · refine lv_bipush (v := 68) hx hb dX6_writeCourse_26 (by decide) ?_
      refine lv_iconst (v := 4) hx hb dX6_writeCourse_28 (by decide) ?_
      refine lv_iload_n hx hb dX6_writeCourse_29 rfl (lv_at hl 1 rfl) ?_
      refine lv_imul hx hb dX6_writeCourse_30 ?_
      refine z_top (y := nI (4 * ck)) (pk_mul 4 ck) ?_
      refine lv_iadd hx hb dX6_writeCourse_31 ?_
      refine z_top (y := nI (68 + (4 * ck))) (nI_add 68 (4 * ck)) ?_
      refine lv_istore_n (lv' := [(2, .int (nI (68 + (4 * ck)))), (0, .ref x9), (1, .int (nI ck))]) hx hb dX6_writeCourse_32 rfl hl (by decide) rfl (fun ls hl => ?_)
      refine lv_aload_n hx hb dX6_writeCourse_33 rfl (lv_at hl 1 rfl) ?_
      refine lv_iconst (v := 0) hx hb dX6_writeCourse_34 (by decide) ?_
      refine z_top (y := nI 0) (rfl) ?_
      refine va_put (D := D) (ci := 10) (v := .int (nI 0)) (ty := .int) (C := RX6) (T := TX6) (N := 21) hx hb hts in_RX6 tyX6 tyX6_ok nmX6 hown hK hP hD hS 0 rfl rfl 18 (by decide) (hts _ (List.mem_of_getElem? (i := 2) rfl)) (fun _ h9 => h9) rfl (by decide +kernel) rfl rfl (Nat.le_of_ble_eq_true rfl) dX6_writeCourse_35 (fun H locs hP hD hS => ?_)
      have hP : va_P D vwCl [(x9, .inr (10, [.int 0, .int (nI ch), .int era, .int why, .int det, .int cau, .int (zI sv), .int (zI rj), .ref v9, .ref b9, .ref s9, .ref k9, .ref p9, .ref t9, .ref n9, .int (nI tn), .int (nI he), .int (nI en), .int (nI 0), .int (zI iw), .int (zI dg)])), (v9, .inl (cy 0, 188, .inl v)), (n9, .inl (cy 0, 40, .inl lx))] H := hP
      have hD : va_D A [(x9, .inr (10, [.int 0, .int (nI ch), .int era, .int why, .int det, .int cau, .int (zI sv), .int (zI rj), .ref v9, .ref b9, .ref s9, .ref k9, .ref p9, .ref t9, .ref n9, .int (nI tn), .int (nI he), .int (nI en), .int (nI 0), .int (zI iw), .int (zI dg)])), (v9, .inl (cy 0, 188, .inl v)), (n9, .inl (cy 0, 40, .inl lx))] := hD
      refine lv_aload_n hx hb dX6_writeCourse_38 rfl (lv_at hl 1 rfl) ?_
      refine lv_iload_n hx hb dX6_writeCourse_39 rfl (lv_at hl 2 rfl) ?_
      refine zcV (As := [.int (nI ck)]) (rest := []) [0, 2] 0 hg.1 ⟨hx, hb, hml, hown, hts⟩ (c_X6_writesNumber_any hg l D cy x9 0 ch era why det cau sv rj v9 b9 s9 k9 p9 t9 n9 tn he en 0 iw dg lx ck (by have := zln_le ck; have := zln_le w0; have := zln_le f0; have := zln_le y0; have := zln_le d0; omega) (by have := zln_le ck; have := zln_le w0; have := zln_le f0; have := zln_le y0; have := zln_le d0; omega)) (cwV 1 hts gX6_writeCourse_X6_writesNumber rfl rfl rfl (by decide +kernel) ⟨Nat.le_of_ble_eq_true rfl, Nat.le_of_ble_eq_true rfl⟩) hG hK hP hD hS hA rfl rfl (Eq.trans (b := [x9, n9]) rfl rfl) rfl rfl rfl hl.1 rfl (Nat.le_of_ble_eq_true rfl) dX6_writeCourse_40 ⟨Nat.zero_le _, Nat.zero_le _⟩ (fun H locs hP hD hS => ?_)
      have hP : va_P D vwCl [(x9, .inr (10, [.int 0, .int (nI ch), .int era, .int why, .int det, .int cau, .int (zI sv), .int (zI rj), .ref v9, .ref b9, .ref s9, .ref k9, .ref p9, .ref t9, .ref n9, .int (nI tn), .int (nI he), .int (nI en), .int (nI (0 + zln ck)), .int (zI iw), .int (zI dg)])), (v9, .inl (cy 0, 188, .inl v)), (n9, .inl (cy 0, 40, .inl (zlw lx 0 ck)))] H := hP
      have hD : va_D A [(x9, .inr (10, [.int 0, .int (nI ch), .int era, .int why, .int det, .int cau, .int (zI sv), .int (zI rj), .ref v9, .ref b9, .ref s9, .ref k9, .ref p9, .ref t9, .ref n9, .int (nI tn), .int (nI he), .int (nI en), .int (nI (0 + zln ck)), .int (zI iw), .int (zI dg)])), (v9, .inl (cy 0, 188, .inl v)), (n9, .inl (cy 0, 40, .inl (zlw lx 0 ck)))] := hD
      refine lv_aload_n hx hb dX6_writeCourse_43 rfl (lv_at hl 1 rfl) ?_
      refine lv_bipush (v := 58) hx hb dX6_writeCourse_44 (by decide) ?_
      refine zcV (As := [.int 58]) (rest := []) [0, 2] 0 hg.1 ⟨hx, hb, hml, hown, hts⟩ (c_X6_writes hg l D cy x9 0 ch era why det cau sv rj v9 b9 s9 k9 p9 t9 n9 tn he en (0 + zln ck) iw dg (zlw lx 0 ck) 58 (by have := zln_le ck; have := zln_le w0; have := zln_le f0; have := zln_le y0; have := zln_le d0; omega)) (cwV 1 hts gX6_writeCourse_X6_writes rfl rfl rfl (by decide +kernel) ⟨Nat.le_of_ble_eq_true rfl, Nat.le_of_ble_eq_true rfl⟩) hG hK hP hD hS hA rfl rfl (Eq.trans (b := [x9, n9]) rfl rfl) rfl rfl rfl hl.1 rfl (Nat.le_of_ble_eq_true rfl) dX6_writeCourse_46 ⟨Nat.zero_le _, Nat.zero_le _⟩ (fun H locs hP hD hS => ?_)
      have hP : va_P D vwCl [(x9, .inr (10, [.int 0, .int (nI ch), .int era, .int why, .int det, .int cau, .int (zI sv), .int (zI rj), .ref v9, .ref b9, .ref s9, .ref k9, .ref p9, .ref t9, .ref n9, .int (nI tn), .int (nI he), .int (nI en), .int (nI ((0 + zln ck) + 1)), .int (zI iw), .int (zI dg)])), (v9, .inl (cy 0, 188, .inl v)), (n9, .inl (cy 0, 40, .inl (upd (zlw lx 0 ck) (0 + zln ck) 58)))] H := hP
      have hD : va_D A [(x9, .inr (10, [.int 0, .int (nI ch), .int era, .int why, .int det, .int cau, .int (zI sv), .int (zI rj), .ref v9, .ref b9, .ref s9, .ref k9, .ref p9, .ref t9, .ref n9, .int (nI tn), .int (nI he), .int (nI en), .int (nI ((0 + zln ck) + 1)), .int (zI iw), .int (zI dg)])), (v9, .inl (cy 0, 188, .inl v)), (n9, .inl (cy 0, 40, .inl (upd (zlw lx 0 ck) (0 + zln ck) 58)))] := hD
      refine lv_aload_n hx hb dX6_writeCourse_49 rfl (lv_at hl 1 rfl) ?_
      refine lv_aload_n hx hb dX6_writeCourse_50 rfl (lv_at hl 1 rfl) ?_
      refine va_get (D := D) (ci := 10) (v := .ref v9) (C := RX6) (T := TX6) (N := 21) hx hb hts in_RX6 hown hK hP 0 rfl rfl 8 (by decide) (hts _ (List.mem_of_getElem? (i := 3) rfl)) (fun _ h9 => h9) rfl dX6_writeCourse_51 ?_
      refine lv_iload_n hx hb dX6_writeCourse_54 rfl (lv_at hl 0 rfl) ?_
      refine ziald 1 0 (68 + (4 * ck)) hx hb hK hP rfl rfl (by omega) (z_lt rfl) dX6_writeCourse_55 ?_
      refine z_top (y := nI w0) (hw0) ?_
      refine zcV (As := [.int (nI w0)]) (rest := []) [0, 2] 0 hg.1 ⟨hx, hb, hml, hown, hts⟩ (c_X6_writesNumber_any hg l D cy x9 0 ch era why det cau sv rj v9 b9 s9 k9 p9 t9 n9 tn he en ((0 + zln ck) + 1) iw dg (upd (zlw lx 0 ck) (0 + zln ck) 58) w0 (by have := zln_le ck; have := zln_le w0; have := zln_le f0; have := zln_le y0; have := zln_le d0; omega) (by have := zln_le ck; have := zln_le w0; have := zln_le f0; have := zln_le y0; have := zln_le d0; omega)) (cwV 1 hts gX6_writeCourse_X6_writesNumber rfl rfl rfl (by decide +kernel) ⟨Nat.le_of_ble_eq_true rfl, Nat.le_of_ble_eq_true rfl⟩) hG hK hP hD hS hA rfl rfl (Eq.trans (b := [x9, n9]) rfl rfl) rfl rfl rfl hl.1 rfl (Nat.le_of_ble_eq_true rfl) dX6_writeCourse_56 ⟨Nat.zero_le _, Nat.zero_le _⟩ (fun H locs hP hD hS => ?_)
      have hP : va_P D vwCl [(x9, .inr (10, [.int 0, .int (nI ch), .int era, .int why, .int det, .int cau, .int (zI sv), .int (zI rj), .ref v9, .ref b9, .ref s9, .ref k9, .ref p9, .ref t9, .ref n9, .int (nI tn), .int (nI he), .int (nI en), .int (nI (((0 + zln ck) + 1) + zln w0)), .int (zI iw), .int (zI dg)])), (v9, .inl (cy 0, 188, .inl v)), (n9, .inl (cy 0, 40, .inl (zlw (upd (zlw lx 0 ck) (0 + zln ck) 58) ((0 + zln ck) + 1) w0)))] H := hP
      have hD : va_D A [(x9, .inr (10, [.int 0, .int (nI ch), .int era, .int why, .int det, .int cau, .int (zI sv), .int (zI rj), .ref v9, .ref b9, .ref s9, .ref k9, .ref p9, .ref t9, .ref n9, .int (nI tn), .int (nI he), .int (nI en), .int (nI (((0 + zln ck) + 1) + zln w0)), .int (zI iw), .int (zI dg)])), (v9, .inl (cy 0, 188, .inl v)), (n9, .inl (cy 0, 40, .inl (zlw (upd (zlw lx 0 ck) (0 + zln ck) 58) ((0 + zln ck) + 1) w0)))] := hD
      refine lv_aload_n hx hb dX6_writeCourse_59 rfl (lv_at hl 1 rfl) ?_
      refine lv_bipush (v := 102) hx hb dX6_writeCourse_60 (by decide) ?_
      refine zcV (As := [.int 102]) (rest := []) [0, 2] 0 hg.1 ⟨hx, hb, hml, hown, hts⟩ (c_X6_writes hg l D cy x9 0 ch era why det cau sv rj v9 b9 s9 k9 p9 t9 n9 tn he en (((0 + zln ck) + 1) + zln w0) iw dg (zlw (upd (zlw lx 0 ck) (0 + zln ck) 58) ((0 + zln ck) + 1) w0) 102 (by have := zln_le ck; have := zln_le w0; have := zln_le f0; have := zln_le y0; have := zln_le d0; omega)) (cwV 1 hts gX6_writeCourse_X6_writes rfl rfl rfl (by decide +kernel) ⟨Nat.le_of_ble_eq_true rfl, Nat.le_of_ble_eq_true rfl⟩) hG hK hP hD hS hA rfl rfl (Eq.trans (b := [x9, n9]) rfl rfl) rfl rfl rfl hl.1 rfl (Nat.le_of_ble_eq_true rfl) dX6_writeCourse_62 ⟨Nat.zero_le _, Nat.zero_le _⟩ (fun H locs hP hD hS => ?_)
      have hP : va_P D vwCl [(x9, .inr (10, [.int 0, .int (nI ch), .int era, .int why, .int det, .int cau, .int (zI sv), .int (zI rj), .ref v9, .ref b9, .ref s9, .ref k9, .ref p9, .ref t9, .ref n9, .int (nI tn), .int (nI he), .int (nI en), .int (nI ((((0 + zln ck) + 1) + zln w0) + 1)), .int (zI iw), .int (zI dg)])), (v9, .inl (cy 0, 188, .inl v)), (n9, .inl (cy 0, 40, .inl (upd (zlw (upd (zlw lx 0 ck) (0 + zln ck) 58) ((0 + zln ck) + 1) w0) (((0 + zln ck) + 1) + zln w0) 102)))] H := hP
      have hD : va_D A [(x9, .inr (10, [.int 0, .int (nI ch), .int era, .int why, .int det, .int cau, .int (zI sv), .int (zI rj), .ref v9, .ref b9, .ref s9, .ref k9, .ref p9, .ref t9, .ref n9, .int (nI tn), .int (nI he), .int (nI en), .int (nI ((((0 + zln ck) + 1) + zln w0) + 1)), .int (zI iw), .int (zI dg)])), (v9, .inl (cy 0, 188, .inl v)), (n9, .inl (cy 0, 40, .inl (upd (zlw (upd (zlw lx 0 ck) (0 + zln ck) 58) ((0 + zln ck) + 1) w0) (((0 + zln ck) + 1) + zln w0) 102)))] := hD
      refine lv_aload_n hx hb dX6_writeCourse_65 rfl (lv_at hl 1 rfl) ?_
      refine lv_aload_n hx hb dX6_writeCourse_66 rfl (lv_at hl 1 rfl) ?_
      refine va_get (D := D) (ci := 10) (v := .ref v9) (C := RX6) (T := TX6) (N := 21) hx hb hts in_RX6 hown hK hP 0 rfl rfl 8 (by decide) (hts _ (List.mem_of_getElem? (i := 3) rfl)) (fun _ h9 => h9) rfl dX6_writeCourse_67 ?_
      refine lv_iload_n hx hb dX6_writeCourse_70 rfl (lv_at hl 0 rfl) ?_
      refine lv_iconst (v := 1) hx hb dX6_writeCourse_71 (by decide) ?_
      refine lv_iadd hx hb dX6_writeCourse_72 ?_
      refine z_top (y := nI ((68 + (4 * ck)) + 1)) (nI_add (68 + (4 * ck)) 1) ?_
      refine ziald 1 0 ((68 + (4 * ck)) + 1) hx hb hK hP rfl rfl (by omega) (z_lt rfl) dX6_writeCourse_73 ?_
      refine z_top (y := nI f0) (hf0) ?_
      refine zcV (As := [.int (nI f0)]) (rest := []) [0, 2] 0 hg.1 ⟨hx, hb, hml, hown, hts⟩ (c_X6_writesNumber_any hg l D cy x9 0 ch era why det cau sv rj v9 b9 s9 k9 p9 t9 n9 tn he en ((((0 + zln ck) + 1) + zln w0) + 1) iw dg (upd (zlw (upd (zlw lx 0 ck) (0 + zln ck) 58) ((0 + zln ck) + 1) w0) (((0 + zln ck) + 1) + zln w0) 102) f0 (by have := zln_le ck; have := zln_le w0; have := zln_le f0; have := zln_le y0; have := zln_le d0; omega) (by have := zln_le ck; have := zln_le w0; have := zln_le f0; have := zln_le y0; have := zln_le d0; omega)) (cwV 1 hts gX6_writeCourse_X6_writesNumber rfl rfl rfl (by decide +kernel) ⟨Nat.le_of_ble_eq_true rfl, Nat.le_of_ble_eq_true rfl⟩) hG hK hP hD hS hA rfl rfl (Eq.trans (b := [x9, n9]) rfl rfl) rfl rfl rfl hl.1 rfl (Nat.le_of_ble_eq_true rfl) dX6_writeCourse_74 ⟨Nat.zero_le _, Nat.zero_le _⟩ (fun H locs hP hD hS => ?_)
      have hP : va_P D vwCl [(x9, .inr (10, [.int 0, .int (nI ch), .int era, .int why, .int det, .int cau, .int (zI sv), .int (zI rj), .ref v9, .ref b9, .ref s9, .ref k9, .ref p9, .ref t9, .ref n9, .int (nI tn), .int (nI he), .int (nI en), .int (nI (((((0 + zln ck) + 1) + zln w0) + 1) + zln f0)), .int (zI iw), .int (zI dg)])), (v9, .inl (cy 0, 188, .inl v)), (n9, .inl (cy 0, 40, .inl (zlw (upd (zlw (upd (zlw lx 0 ck) (0 + zln ck) 58) ((0 + zln ck) + 1) w0) (((0 + zln ck) + 1) + zln w0) 102) ((((0 + zln ck) + 1) + zln w0) + 1) f0)))] H := hP
      have hD : va_D A [(x9, .inr (10, [.int 0, .int (nI ch), .int era, .int why, .int det, .int cau, .int (zI sv), .int (zI rj), .ref v9, .ref b9, .ref s9, .ref k9, .ref p9, .ref t9, .ref n9, .int (nI tn), .int (nI he), .int (nI en), .int (nI (((((0 + zln ck) + 1) + zln w0) + 1) + zln f0)), .int (zI iw), .int (zI dg)])), (v9, .inl (cy 0, 188, .inl v)), (n9, .inl (cy 0, 40, .inl (zlw (upd (zlw (upd (zlw lx 0 ck) (0 + zln ck) 58) ((0 + zln ck) + 1) w0) (((0 + zln ck) + 1) + zln w0) 102) ((((0 + zln ck) + 1) + zln w0) + 1) f0)))] := hD
      refine lv_aload_n hx hb dX6_writeCourse_77 rfl (lv_at hl 1 rfl) ?_
      refine lv_bipush (v := 121) hx hb dX6_writeCourse_78 (by decide) ?_
      refine zcV (As := [.int 121]) (rest := []) [0, 2] 0 hg.1 ⟨hx, hb, hml, hown, hts⟩ (c_X6_writes hg l D cy x9 0 ch era why det cau sv rj v9 b9 s9 k9 p9 t9 n9 tn he en (((((0 + zln ck) + 1) + zln w0) + 1) + zln f0) iw dg (zlw (upd (zlw (upd (zlw lx 0 ck) (0 + zln ck) 58) ((0 + zln ck) + 1) w0) (((0 + zln ck) + 1) + zln w0) 102) ((((0 + zln ck) + 1) + zln w0) + 1) f0) 121 (by have := zln_le ck; have := zln_le w0; have := zln_le f0; have := zln_le y0; have := zln_le d0; omega)) (cwV 1 hts gX6_writeCourse_X6_writes rfl rfl rfl (by decide +kernel) ⟨Nat.le_of_ble_eq_true rfl, Nat.le_of_ble_eq_true rfl⟩) hG hK hP hD hS hA rfl rfl (Eq.trans (b := [x9, n9]) rfl rfl) rfl rfl rfl hl.1 rfl (Nat.le_of_ble_eq_true rfl) dX6_writeCourse_80 ⟨Nat.zero_le _, Nat.zero_le _⟩ (fun H locs hP hD hS => ?_)
      have hP : va_P D vwCl [(x9, .inr (10, [.int 0, .int (nI ch), .int era, .int why, .int det, .int cau, .int (zI sv), .int (zI rj), .ref v9, .ref b9, .ref s9, .ref k9, .ref p9, .ref t9, .ref n9, .int (nI tn), .int (nI he), .int (nI en), .int (nI ((((((0 + zln ck) + 1) + zln w0) + 1) + zln f0) + 1)), .int (zI iw), .int (zI dg)])), (v9, .inl (cy 0, 188, .inl v)), (n9, .inl (cy 0, 40, .inl (upd (zlw (upd (zlw (upd (zlw lx 0 ck) (0 + zln ck) 58) ((0 + zln ck) + 1) w0) (((0 + zln ck) + 1) + zln w0) 102) ((((0 + zln ck) + 1) + zln w0) + 1) f0) (((((0 + zln ck) + 1) + zln w0) + 1) + zln f0) 121)))] H := hP
      have hD : va_D A [(x9, .inr (10, [.int 0, .int (nI ch), .int era, .int why, .int det, .int cau, .int (zI sv), .int (zI rj), .ref v9, .ref b9, .ref s9, .ref k9, .ref p9, .ref t9, .ref n9, .int (nI tn), .int (nI he), .int (nI en), .int (nI ((((((0 + zln ck) + 1) + zln w0) + 1) + zln f0) + 1)), .int (zI iw), .int (zI dg)])), (v9, .inl (cy 0, 188, .inl v)), (n9, .inl (cy 0, 40, .inl (upd (zlw (upd (zlw (upd (zlw lx 0 ck) (0 + zln ck) 58) ((0 + zln ck) + 1) w0) (((0 + zln ck) + 1) + zln w0) 102) ((((0 + zln ck) + 1) + zln w0) + 1) f0) (((((0 + zln ck) + 1) + zln w0) + 1) + zln f0) 121)))] := hD
      refine lv_aload_n hx hb dX6_writeCourse_83 rfl (lv_at hl 1 rfl) ?_
      refine lv_aload_n hx hb dX6_writeCourse_84 rfl (lv_at hl 1 rfl) ?_
      refine va_get (D := D) (ci := 10) (v := .ref v9) (C := RX6) (T := TX6) (N := 21) hx hb hts in_RX6 hown hK hP 0 rfl rfl 8 (by decide) (hts _ (List.mem_of_getElem? (i := 3) rfl)) (fun _ h9 => h9) rfl dX6_writeCourse_85 ?_
      refine lv_iload_n hx hb dX6_writeCourse_88 rfl (lv_at hl 0 rfl) ?_
      refine lv_iconst (v := 2) hx hb dX6_writeCourse_89 (by decide) ?_
      refine lv_iadd hx hb dX6_writeCourse_90 ?_
      refine z_top (y := nI ((68 + (4 * ck)) + 2)) (nI_add (68 + (4 * ck)) 2) ?_
      refine ziald 1 0 ((68 + (4 * ck)) + 2) hx hb hK hP rfl rfl (by omega) (z_lt rfl) dX6_writeCourse_91 ?_
      refine z_top (y := nI y0) (hy0) ?_
      refine zcV (As := [.int (nI y0)]) (rest := []) [0, 2] 0 hg.1 ⟨hx, hb, hml, hown, hts⟩ (c_X6_writesNumber_any hg l D cy x9 0 ch era why det cau sv rj v9 b9 s9 k9 p9 t9 n9 tn he en ((((((0 + zln ck) + 1) + zln w0) + 1) + zln f0) + 1) iw dg (upd (zlw (upd (zlw (upd (zlw lx 0 ck) (0 + zln ck) 58) ((0 + zln ck) + 1) w0) (((0 + zln ck) + 1) + zln w0) 102) ((((0 + zln ck) + 1) + zln w0) + 1) f0) (((((0 + zln ck) + 1) + zln w0) + 1) + zln f0) 121) y0 (by have := zln_le ck; have := zln_le w0; have := zln_le f0; have := zln_le y0; have := zln_le d0; omega) (by have := zln_le ck; have := zln_le w0; have := zln_le f0; have := zln_le y0; have := zln_le d0; omega)) (cwV 1 hts gX6_writeCourse_X6_writesNumber rfl rfl rfl (by decide +kernel) ⟨Nat.le_of_ble_eq_true rfl, Nat.le_of_ble_eq_true rfl⟩) hG hK hP hD hS hA rfl rfl (Eq.trans (b := [x9, n9]) rfl rfl) rfl rfl rfl hl.1 rfl (Nat.le_of_ble_eq_true rfl) dX6_writeCourse_92 ⟨Nat.zero_le _, Nat.zero_le _⟩ (fun H locs hP hD hS => ?_)
      have hP : va_P D vwCl [(x9, .inr (10, [.int 0, .int (nI ch), .int era, .int why, .int det, .int cau, .int (zI sv), .int (zI rj), .ref v9, .ref b9, .ref s9, .ref k9, .ref p9, .ref t9, .ref n9, .int (nI tn), .int (nI he), .int (nI en), .int (nI (((((((0 + zln ck) + 1) + zln w0) + 1) + zln f0) + 1) + zln y0)), .int (zI iw), .int (zI dg)])), (v9, .inl (cy 0, 188, .inl v)), (n9, .inl (cy 0, 40, .inl (zlw (upd (zlw (upd (zlw (upd (zlw lx 0 ck) (0 + zln ck) 58) ((0 + zln ck) + 1) w0) (((0 + zln ck) + 1) + zln w0) 102) ((((0 + zln ck) + 1) + zln w0) + 1) f0) (((((0 + zln ck) + 1) + zln w0) + 1) + zln f0) 121) ((((((0 + zln ck) + 1) + zln w0) + 1) + zln f0) + 1) y0)))] H := hP
      have hD : va_D A [(x9, .inr (10, [.int 0, .int (nI ch), .int era, .int why, .int det, .int cau, .int (zI sv), .int (zI rj), .ref v9, .ref b9, .ref s9, .ref k9, .ref p9, .ref t9, .ref n9, .int (nI tn), .int (nI he), .int (nI en), .int (nI (((((((0 + zln ck) + 1) + zln w0) + 1) + zln f0) + 1) + zln y0)), .int (zI iw), .int (zI dg)])), (v9, .inl (cy 0, 188, .inl v)), (n9, .inl (cy 0, 40, .inl (zlw (upd (zlw (upd (zlw (upd (zlw lx 0 ck) (0 + zln ck) 58) ((0 + zln ck) + 1) w0) (((0 + zln ck) + 1) + zln w0) 102) ((((0 + zln ck) + 1) + zln w0) + 1) f0) (((((0 + zln ck) + 1) + zln w0) + 1) + zln f0) 121) ((((((0 + zln ck) + 1) + zln w0) + 1) + zln f0) + 1) y0)))] := hD
      refine lv_aload_n hx hb dX6_writeCourse_95 rfl (lv_at hl 1 rfl) ?_
      refine va_get (D := D) (ci := 10) (v := .ref v9) (C := RX6) (T := TX6) (N := 21) hx hb hts in_RX6 hown hK hP 0 rfl rfl 8 (by decide) (hts _ (List.mem_of_getElem? (i := 3) rfl)) (fun _ h9 => h9) rfl dX6_writeCourse_96 ?_
      refine lv_iload_n hx hb dX6_writeCourse_99 rfl (lv_at hl 0 rfl) ?_
      refine lv_iconst (v := 3) hx hb dX6_writeCourse_100 (by decide) ?_
      refine lv_iadd hx hb dX6_writeCourse_101 ?_
      refine z_top (y := nI ((68 + (4 * ck)) + 3)) (nI_add (68 + (4 * ck)) 3) ?_
      refine ziald 1 0 ((68 + (4 * ck)) + 3) hx hb hK hP rfl rfl (by omega) (z_lt rfl) dX6_writeCourse_102 ?_
      refine z_top (y := nI d0) (hd0) ?_
      refine lv_if_le (tgt := 124) hx hb dX6_writeCourse_103 (by decide) (fun c_3 => ?_) (fun c_3 => ?_)
      · refine lv_aload_n hx hb dX6_writeCourse_124 rfl (lv_at hl 1 rfl) ?_
        refine va_get (D := D) (ci := 10) (v := .int (nI (((((((0 + zln ck) + 1) + zln w0) + 1) + zln f0) + 1) + zln y0))) (C := RX6) (T := TX6) (N := 21) hx hb hts in_RX6 hown hK hP 0 rfl rfl 18 (by decide) (hts _ (List.mem_of_getElem? (i := 2) rfl)) (fun _ h9 => h9) rfl dX6_writeCourse_125 ?_
        exact ziret hend hx hb hr hlk hK hP hD hS dX6_writeCourse_128 (by rfl) (by rfl)
      · exact absurd (nI_npos hd1) c_3
    · exact absurd c_2 (by decide)

abbrev rmX6_writeCourse_d : Room := { frames := 2, cells := 0, slots := 0, locals := 43 }
set_option maxHeartbeats 4000000 in
set_option maxRecDepth 100000 in
theorem c_X6_writeCourse_d {G : zG} (hg : zGN G) (l : Launch) (D : va_G) (cy : Nat → ClassId) (x9 : Nat) (th : Int32) (ch : Nat) (era : Int32) (why : Int32) (det : Int32) (cau : Int32) (sv : Bool) (rj : Bool) (v9 : Nat) (b9 : Nat) (s9 : Nat) (k9 : Nat) (p9 : Nat) (t9 : Nat) (n9 : Nat) (tn : Nat) (he : Nat) (en : Nat) (ln : Nat) (iw : Bool) (dg : Bool) (v : Nat → Int32) (lx : Nat → Int32) (cn : Nat) (ck : Nat) (w0 : Nat) (f0 : Nat) (y0 : Nat) (d0 : Nat) (hv5 : v 5 = nI cn) (hcn : cn ≤ 30) (hck : ck < cn) (hw0 : v (68 + 4 * ck) = nI w0) (hf0 : v (68 + 4 * ck + 1) = nI f0) (hy0 : v (68 + 4 * ck + 2) = nI y0) (hd0 : v (68 + 4 * ck + 3) = nI d0) (hwb : w0 < 100) (hfb : f0 < 10) (hyb : y0 < 1000) (hdb : d0 < 100) (hd1 : 0 < d0) : zM G D vwCl (zT cy) l yX6_writeCourse wsX6_writeCourse rmX6_writeCourse_d [.ref x9, .int (nI ck)] [(x9, .inr (10, [.int th, .int (nI ch), .int era, .int why, .int det, .int cau, .int (zI sv), .int (zI rj), .ref v9, .ref b9, .ref s9, .ref k9, .ref p9, .ref t9, .ref n9, .int (nI tn), .int (nI he), .int (nI en), .int (nI ln), .int (zI iw), .int (zI dg)])), (v9, .inl (cy 0, 188, .inl v)), (n9, .inl (cy 0, 40, .inl lx))] (some (.int (nI (0 + zln ck + 1 + zln w0 + 1 + zln f0 + 1 + zln y0 + 1 + zln d0)))) [(x9, .inr (10, [.int 0, .int (nI ch), .int era, .int why, .int det, .int cau, .int (zI sv), .int (zI rj), .ref v9, .ref b9, .ref s9, .ref k9, .ref p9, .ref t9, .ref n9, .int (nI tn), .int (nI he), .int (nI en), .int (nI (0 + zln ck + 1 + zln w0 + 1 + zln f0 + 1 + zln y0 + 1 + zln d0)), .int (zI iw), .int (zI dg)])), (v9, .inl (cy 0, 188, .inl v)), (n9, .inl (cy 0, 40, .inl (zlw (upd (zlw (upd (zlw (upd (zlw (upd (zlw lx 0 ck) (0 + zln ck) 58) (0 + zln ck + 1) w0) (0 + zln ck + 1 + zln w0) 102) (0 + zln ck + 1 + zln w0 + 1) f0) (0 + zln ck + 1 + zln w0 + 1 + zln f0) 121) (0 + zln ck + 1 + zln w0 + 1 + zln f0 + 1) y0) (0 + zln ck + 1 + zln w0 + 1 + zln f0 + 1 + zln y0) 33) (0 + zln ck + 1 + zln w0 + 1 + zln f0 + 1 + zln y0 + 1) d0)))] := by
  refine zM_of (cc := cX6_writeCourse) (maxL := 3) (ret := (some .int)) (by decide) rfl (Nat.le_of_ble_eq_true rfl) ?_
  intro p e s m below meth c A Q hend hx hb hml hr hts hown hlk hG hK hP hD hA hS ls hl
  have hown : s.vm.findClass RX6 = some m.cls := hown
  have in_RX6 : ∀ w ∈ u_ws RX6 TX6 21, w ∈ wsX6_writeCourse := by decide +kernel
  have hl : lv_has ls 3 [(0, .ref x9), (1, .int (nI ck))] := hl
  refine lv_aload_n hx hb dX6_writeCourse_0 rfl (lv_at hl 0 rfl) ?_
  refine lv_aload_n hx hb dX6_writeCourse_1 rfl (lv_at hl 0 rfl) ?_
  refine lv_iload_n hx hb dX6_writeCourse_2 rfl (lv_at hl 1 rfl) ?_
  refine zcV (As := [.int (nI ck)]) (rest := [.ref x9]) [0, 1] 0 hg.1 ⟨hx, hb, hml, hown, hts⟩ (c_X6_isCourse hg l D cy x9 th ch era why det cau sv rj v9 b9 s9 k9 p9 t9 n9 tn he en ln iw dg v (nI ck)) (cwV 1 hts gX6_writeCourse_X6_isCourse rfl rfl rfl (by decide +kernel) ⟨Nat.le_of_ble_eq_true rfl, Nat.le_of_ble_eq_true rfl⟩) hG hK hP hD hS hA rfl rfl rfl rfl rfl rfl hl.1 rfl (Nat.le_of_ble_eq_true rfl) dX6_writeCourse_3 ⟨Nat.zero_le _, Nat.zero_le _⟩ (fun H locs hP hD hS => ?_)
  have hP : va_P D vwCl [(x9, .inr (10, [.int th, .int (nI ch), .int era, .int why, .int det, .int cau, .int (zI sv), .int (zI rj), .ref v9, .ref b9, .ref s9, .ref k9, .ref p9, .ref t9, .ref n9, .int (nI tn), .int (nI he), .int (nI en), .int (nI ln), .int (zI iw), .int (zI dg)])), (v9, .inl (cy 0, 188, .inl v)), (n9, .inl (cy 0, 40, .inl lx))] H := hP
  have hD : va_D A [(x9, .inr (10, [.int th, .int (nI ch), .int era, .int why, .int det, .int cau, .int (zI sv), .int (zI rj), .ref v9, .ref b9, .ref s9, .ref k9, .ref p9, .ref t9, .ref n9, .int (nI tn), .int (nI he), .int (nI en), .int (nI ln), .int (zI iw), .int (zI dg)])), (v9, .inl (cy 0, 188, .inl v)), (n9, .inl (cy 0, 40, .inl lx))] := hD
  refine lv_if_eq (tgt := 13) hx hb dX6_writeCourse_6 (by decide) (fun c_1 => ?_) (fun c_1 => ?_)
  · replace c_1 := zI0 c_1
    exact absurd ((show zic 0 (v 5 - 1) (nI ck) = true by rw [hv5]; exact zic_c (by omega) hck).symm.trans c_1) (by decide)
  · replace c_1 := zI1 c_1
    refine lv_iconst (v := 0) hx hb dX6_writeCourse_9 (by decide) ?_
    refine lv_goto (tgt := 14) hx hb dX6_writeCourse_10 (by decide) ?_
    refine va_put (D := D) (ci := 10) (v := .int 0) (ty := .int) (C := RX6) (T := TX6) (N := 21) hx hb hts in_RX6 tyX6 tyX6_ok nmX6 hown hK hP hD hS 0 rfl rfl 0 (by decide) (hts _ (List.mem_of_getElem? (i := 1) rfl)) (fun _ h9 => h9) rfl (by decide +kernel) rfl rfl (Nat.le_of_ble_eq_true rfl) dX6_writeCourse_14 (fun H locs hP hD hS => ?_)
    have hP : va_P D vwCl [(x9, .inr (10, [.int 0, .int (nI ch), .int era, .int why, .int det, .int cau, .int (zI sv), .int (zI rj), .ref v9, .ref b9, .ref s9, .ref k9, .ref p9, .ref t9, .ref n9, .int (nI tn), .int (nI he), .int (nI en), .int (nI ln), .int (zI iw), .int (zI dg)])), (v9, .inl (cy 0, 188, .inl v)), (n9, .inl (cy 0, 40, .inl lx))] H := hP
    have hD : va_D A [(x9, .inr (10, [.int 0, .int (nI ch), .int era, .int why, .int det, .int cau, .int (zI sv), .int (zI rj), .ref v9, .ref b9, .ref s9, .ref k9, .ref p9, .ref t9, .ref n9, .int (nI tn), .int (nI he), .int (nI en), .int (nI ln), .int (zI iw), .int (zI dg)])), (v9, .inl (cy 0, 188, .inl v)), (n9, .inl (cy 0, 40, .inl lx))] := hD
    refine lv_aload_n hx hb dX6_writeCourse_17 rfl (lv_at hl 0 rfl) ?_
    refine va_get (D := D) (ci := 10) (v := .int 0) (C := RX6) (T := TX6) (N := 21) hx hb hts in_RX6 hown hK hP 0 rfl rfl 0 (by decide) (hts _ (List.mem_of_getElem? (i := 1) rfl)) (fun _ h9 => h9) rfl dX6_writeCourse_18 ?_
    refine lv_if_eq (tgt := 26) hx hb dX6_writeCourse_21 (by decide) (fun c_2 => ?_) (fun c_2 => ?_)
    · refine lv_bipush (v := 68) hx hb dX6_writeCourse_26 (by decide) ?_
      refine lv_iconst (v := 4) hx hb dX6_writeCourse_28 (by decide) ?_
      refine lv_iload_n hx hb dX6_writeCourse_29 rfl (lv_at hl 1 rfl) ?_
      refine lv_imul hx hb dX6_writeCourse_30 ?_
      refine z_top (y := nI (4 * ck)) (pk_mul 4 ck) ?_
      refine lv_iadd hx hb dX6_writeCourse_31 ?_
      refine z_top (y := nI (68 + (4 * ck))) (nI_add 68 (4 * ck)) ?_
      refine lv_istore_n (lv' := [(2, .int (nI (68 + (4 * ck)))), (0, .ref x9), (1, .int (nI ck))]) hx hb dX6_writeCourse_32 rfl hl (by decide) rfl (fun ls hl => ?_)
      refine lv_aload_n hx hb dX6_writeCourse_33 rfl (lv_at hl 1 rfl) ?_
      refine lv_iconst (v := 0) hx hb dX6_writeCourse_34 (by decide) ?_
      refine z_top (y := nI 0) (rfl) ?_
      refine va_put (D := D) (ci := 10) (v := .int (nI 0)) (ty := .int) (C := RX6) (T := TX6) (N := 21) hx hb hts in_RX6 tyX6 tyX6_ok nmX6 hown hK hP hD hS 0 rfl rfl 18 (by decide) (hts _ (List.mem_of_getElem? (i := 2) rfl)) (fun _ h9 => h9) rfl (by decide +kernel) rfl rfl (Nat.le_of_ble_eq_true rfl) dX6_writeCourse_35 (fun H locs hP hD hS => ?_)
      have hP : va_P D vwCl [(x9, .inr (10, [.int 0, .int (nI ch), .int era, .int why, .int det, .int cau, .int (zI sv), .int (zI rj), .ref v9, .ref b9, .ref s9, .ref k9, .ref p9, .ref t9, .ref n9, .int (nI tn), .int (nI he), .int (nI en), .int (nI 0), .int (zI iw), .int (zI dg)])), (v9, .inl (cy 0, 188, .inl v)), (n9, .inl (cy 0, 40, .inl lx))] H := hP
      have hD : va_D A [(x9, .inr (10, [.int 0, .int (nI ch), .int era, .int why, .int det, .int cau, .int (zI sv), .int (zI rj), .ref v9, .ref b9, .ref s9, .ref k9, .ref p9, .ref t9, .ref n9, .int (nI tn), .int (nI he), .int (nI en), .int (nI 0), .int (zI iw), .int (zI dg)])), (v9, .inl (cy 0, 188, .inl v)), (n9, .inl (cy 0, 40, .inl lx))] := hD
      refine lv_aload_n hx hb dX6_writeCourse_38 rfl (lv_at hl 1 rfl) ?_
      refine lv_iload_n hx hb dX6_writeCourse_39 rfl (lv_at hl 2 rfl) ?_
      refine zcV (As := [.int (nI ck)]) (rest := []) [0, 2] 0 hg.1 ⟨hx, hb, hml, hown, hts⟩ (c_X6_writesNumber_any hg l D cy x9 0 ch era why det cau sv rj v9 b9 s9 k9 p9 t9 n9 tn he en 0 iw dg lx ck (by have := zln_le ck; have := zln_le w0; have := zln_le f0; have := zln_le y0; have := zln_le d0; omega) (by have := zln_le ck; have := zln_le w0; have := zln_le f0; have := zln_le y0; have := zln_le d0; omega)) (cwV 1 hts gX6_writeCourse_X6_writesNumber rfl rfl rfl (by decide +kernel) ⟨Nat.le_of_ble_eq_true rfl, Nat.le_of_ble_eq_true rfl⟩) hG hK hP hD hS hA rfl rfl (Eq.trans (b := [x9, n9]) rfl rfl) rfl rfl rfl hl.1 rfl (Nat.le_of_ble_eq_true rfl) dX6_writeCourse_40 ⟨Nat.zero_le _, Nat.zero_le _⟩ (fun H locs hP hD hS => ?_)
      have hP : va_P D vwCl [(x9, .inr (10, [.int 0, .int (nI ch), .int era, .int why, .int det, .int cau, .int (zI sv), .int (zI rj), .ref v9, .ref b9, .ref s9, .ref k9, .ref p9, .ref t9, .ref n9, .int (nI tn), .int (nI he), .int (nI en), .int (nI (0 + zln ck)), .int (zI iw), .int (zI dg)])), (v9, .inl (cy 0, 188, .inl v)), (n9, .inl (cy 0, 40, .inl (zlw lx 0 ck)))] H := hP
      have hD : va_D A [(x9, .inr (10, [.int 0, .int (nI ch), .int era, .int why, .int det, .int cau, .int (zI sv), .int (zI rj), .ref v9, .ref b9, .ref s9, .ref k9, .ref p9, .ref t9, .ref n9, .int (nI tn), .int (nI he), .int (nI en), .int (nI (0 + zln ck)), .int (zI iw), .int (zI dg)])), (v9, .inl (cy 0, 188, .inl v)), (n9, .inl (cy 0, 40, .inl (zlw lx 0 ck)))] := hD
      refine lv_aload_n hx hb dX6_writeCourse_43 rfl (lv_at hl 1 rfl) ?_
      refine lv_bipush (v := 58) hx hb dX6_writeCourse_44 (by decide) ?_
      refine zcV (As := [.int 58]) (rest := []) [0, 2] 0 hg.1 ⟨hx, hb, hml, hown, hts⟩ (c_X6_writes hg l D cy x9 0 ch era why det cau sv rj v9 b9 s9 k9 p9 t9 n9 tn he en (0 + zln ck) iw dg (zlw lx 0 ck) 58 (by have := zln_le ck; have := zln_le w0; have := zln_le f0; have := zln_le y0; have := zln_le d0; omega)) (cwV 1 hts gX6_writeCourse_X6_writes rfl rfl rfl (by decide +kernel) ⟨Nat.le_of_ble_eq_true rfl, Nat.le_of_ble_eq_true rfl⟩) hG hK hP hD hS hA rfl rfl (Eq.trans (b := [x9, n9]) rfl rfl) rfl rfl rfl hl.1 rfl (Nat.le_of_ble_eq_true rfl) dX6_writeCourse_46 ⟨Nat.zero_le _, Nat.zero_le _⟩ (fun H locs hP hD hS => ?_)
      have hP : va_P D vwCl [(x9, .inr (10, [.int 0, .int (nI ch), .int era, .int why, .int det, .int cau, .int (zI sv), .int (zI rj), .ref v9, .ref b9, .ref s9, .ref k9, .ref p9, .ref t9, .ref n9, .int (nI tn), .int (nI he), .int (nI en), .int (nI ((0 + zln ck) + 1)), .int (zI iw), .int (zI dg)])), (v9, .inl (cy 0, 188, .inl v)), (n9, .inl (cy 0, 40, .inl (upd (zlw lx 0 ck) (0 + zln ck) 58)))] H := hP
      have hD : va_D A [(x9, .inr (10, [.int 0, .int (nI ch), .int era, .int why, .int det, .int cau, .int (zI sv), .int (zI rj), .ref v9, .ref b9, .ref s9, .ref k9, .ref p9, .ref t9, .ref n9, .int (nI tn), .int (nI he), .int (nI en), .int (nI ((0 + zln ck) + 1)), .int (zI iw), .int (zI dg)])), (v9, .inl (cy 0, 188, .inl v)), (n9, .inl (cy 0, 40, .inl (upd (zlw lx 0 ck) (0 + zln ck) 58)))] := hD
      refine lv_aload_n hx hb dX6_writeCourse_49 rfl (lv_at hl 1 rfl) ?_
      refine lv_aload_n hx hb dX6_writeCourse_50 rfl (lv_at hl 1 rfl) ?_
      refine va_get (D := D) (ci := 10) (v := .ref v9) (C := RX6) (T := TX6) (N := 21) hx hb hts in_RX6 hown hK hP 0 rfl rfl 8 (by decide) (hts _ (List.mem_of_getElem? (i := 3) rfl)) (fun _ h9 => h9) rfl dX6_writeCourse_51 ?_
      refine lv_iload_n hx hb dX6_writeCourse_54 rfl (lv_at hl 0 rfl) ?_
      refine ziald 1 0 (68 + (4 * ck)) hx hb hK hP rfl rfl (by omega) (z_lt rfl) dX6_writeCourse_55 ?_
      refine z_top (y := nI w0) (hw0) ?_
      refine zcV (As := [.int (nI w0)]) (rest := []) [0, 2] 0 hg.1 ⟨hx, hb, hml, hown, hts⟩ (c_X6_writesNumber_any hg l D cy x9 0 ch era why det cau sv rj v9 b9 s9 k9 p9 t9 n9 tn he en ((0 + zln ck) + 1) iw dg (upd (zlw lx 0 ck) (0 + zln ck) 58) w0 (by have := zln_le ck; have := zln_le w0; have := zln_le f0; have := zln_le y0; have := zln_le d0; omega) (by have := zln_le ck; have := zln_le w0; have := zln_le f0; have := zln_le y0; have := zln_le d0; omega)) (cwV 1 hts gX6_writeCourse_X6_writesNumber rfl rfl rfl (by decide +kernel) ⟨Nat.le_of_ble_eq_true rfl, Nat.le_of_ble_eq_true rfl⟩) hG hK hP hD hS hA rfl rfl (Eq.trans (b := [x9, n9]) rfl rfl) rfl rfl rfl hl.1 rfl (Nat.le_of_ble_eq_true rfl) dX6_writeCourse_56 ⟨Nat.zero_le _, Nat.zero_le _⟩ (fun H locs hP hD hS => ?_)
      have hP : va_P D vwCl [(x9, .inr (10, [.int 0, .int (nI ch), .int era, .int why, .int det, .int cau, .int (zI sv), .int (zI rj), .ref v9, .ref b9, .ref s9, .ref k9, .ref p9, .ref t9, .ref n9, .int (nI tn), .int (nI he), .int (nI en), .int (nI (((0 + zln ck) + 1) + zln w0)), .int (zI iw), .int (zI dg)])), (v9, .inl (cy 0, 188, .inl v)), (n9, .inl (cy 0, 40, .inl (zlw (upd (zlw lx 0 ck) (0 + zln ck) 58) ((0 + zln ck) + 1) w0)))] H := hP
      have hD : va_D A [(x9, .inr (10, [.int 0, .int (nI ch), .int era, .int why, .int det, .int cau, .int (zI sv), .int (zI rj), .ref v9, .ref b9, .ref s9, .ref k9, .ref p9, .ref t9, .ref n9, .int (nI tn), .int (nI he), .int (nI en), .int (nI (((0 + zln ck) + 1) + zln w0)), .int (zI iw), .int (zI dg)])), (v9, .inl (cy 0, 188, .inl v)), (n9, .inl (cy 0, 40, .inl (zlw (upd (zlw lx 0 ck) (0 + zln ck) 58) ((0 + zln ck) + 1) w0)))] := hD
      refine lv_aload_n hx hb dX6_writeCourse_59 rfl (lv_at hl 1 rfl) ?_
      refine lv_bipush (v := 102) hx hb dX6_writeCourse_60 (by decide) ?_
      refine zcV (As := [.int 102]) (rest := []) [0, 2] 0 hg.1 ⟨hx, hb, hml, hown, hts⟩ (c_X6_writes hg l D cy x9 0 ch era why det cau sv rj v9 b9 s9 k9 p9 t9 n9 tn he en (((0 + zln ck) + 1) + zln w0) iw dg (zlw (upd (zlw lx 0 ck) (0 + zln ck) 58) ((0 + zln ck) + 1) w0) 102 (by have := zln_le ck; have := zln_le w0; have := zln_le f0; have := zln_le y0; have := zln_le d0; omega)) (cwV 1 hts gX6_writeCourse_X6_writes rfl rfl rfl (by decide +kernel) ⟨Nat.le_of_ble_eq_true rfl, Nat.le_of_ble_eq_true rfl⟩) hG hK hP hD hS hA rfl rfl (Eq.trans (b := [x9, n9]) rfl rfl) rfl rfl rfl hl.1 rfl (Nat.le_of_ble_eq_true rfl) dX6_writeCourse_62 ⟨Nat.zero_le _, Nat.zero_le _⟩ (fun H locs hP hD hS => ?_)
      have hP : va_P D vwCl [(x9, .inr (10, [.int 0, .int (nI ch), .int era, .int why, .int det, .int cau, .int (zI sv), .int (zI rj), .ref v9, .ref b9, .ref s9, .ref k9, .ref p9, .ref t9, .ref n9, .int (nI tn), .int (nI he), .int (nI en), .int (nI ((((0 + zln ck) + 1) + zln w0) + 1)), .int (zI iw), .int (zI dg)])), (v9, .inl (cy 0, 188, .inl v)), (n9, .inl (cy 0, 40, .inl (upd (zlw (upd (zlw lx 0 ck) (0 + zln ck) 58) ((0 + zln ck) + 1) w0) (((0 + zln ck) + 1) + zln w0) 102)))] H := hP
      have hD : va_D A [(x9, .inr (10, [.int 0, .int (nI ch), .int era, .int why, .int det, .int cau, .int (zI sv), .int (zI rj), .ref v9, .ref b9, .ref s9, .ref k9, .ref p9, .ref t9, .ref n9, .int (nI tn), .int (nI he), .int (nI en), .int (nI ((((0 + zln ck) + 1) + zln w0) + 1)), .int (zI iw), .int (zI dg)])), (v9, .inl (cy 0, 188, .inl v)), (n9, .inl (cy 0, 40, .inl (upd (zlw (upd (zlw lx 0 ck) (0 + zln ck) 58) ((0 + zln ck) + 1) w0) (((0 + zln ck) + 1) + zln w0) 102)))] := hD
      refine lv_aload_n hx hb dX6_writeCourse_65 rfl (lv_at hl 1 rfl) ?_
      refine lv_aload_n hx hb dX6_writeCourse_66 rfl (lv_at hl 1 rfl) ?_
      refine va_get (D := D) (ci := 10) (v := .ref v9) (C := RX6) (T := TX6) (N := 21) hx hb hts in_RX6 hown hK hP 0 rfl rfl 8 (by decide) (hts _ (List.mem_of_getElem? (i := 3) rfl)) (fun _ h9 => h9) rfl dX6_writeCourse_67 ?_
      refine lv_iload_n hx hb dX6_writeCourse_70 rfl (lv_at hl 0 rfl) ?_
      refine lv_iconst (v := 1) hx hb dX6_writeCourse_71 (by decide) ?_
      refine lv_iadd hx hb dX6_writeCourse_72 ?_
      refine z_top (y := nI ((68 + (4 * ck)) + 1)) (nI_add (68 + (4 * ck)) 1) ?_
      refine ziald 1 0 ((68 + (4 * ck)) + 1) hx hb hK hP rfl rfl (by omega) (z_lt rfl) dX6_writeCourse_73 ?_
      refine z_top (y := nI f0) (hf0) ?_
      refine zcV (As := [.int (nI f0)]) (rest := []) [0, 2] 0 hg.1 ⟨hx, hb, hml, hown, hts⟩ (c_X6_writesNumber_any hg l D cy x9 0 ch era why det cau sv rj v9 b9 s9 k9 p9 t9 n9 tn he en ((((0 + zln ck) + 1) + zln w0) + 1) iw dg (upd (zlw (upd (zlw lx 0 ck) (0 + zln ck) 58) ((0 + zln ck) + 1) w0) (((0 + zln ck) + 1) + zln w0) 102) f0 (by have := zln_le ck; have := zln_le w0; have := zln_le f0; have := zln_le y0; have := zln_le d0; omega) (by have := zln_le ck; have := zln_le w0; have := zln_le f0; have := zln_le y0; have := zln_le d0; omega)) (cwV 1 hts gX6_writeCourse_X6_writesNumber rfl rfl rfl (by decide +kernel) ⟨Nat.le_of_ble_eq_true rfl, Nat.le_of_ble_eq_true rfl⟩) hG hK hP hD hS hA rfl rfl (Eq.trans (b := [x9, n9]) rfl rfl) rfl rfl rfl hl.1 rfl (Nat.le_of_ble_eq_true rfl) dX6_writeCourse_74 ⟨Nat.zero_le _, Nat.zero_le _⟩ (fun H locs hP hD hS => ?_)
      have hP : va_P D vwCl [(x9, .inr (10, [.int 0, .int (nI ch), .int era, .int why, .int det, .int cau, .int (zI sv), .int (zI rj), .ref v9, .ref b9, .ref s9, .ref k9, .ref p9, .ref t9, .ref n9, .int (nI tn), .int (nI he), .int (nI en), .int (nI (((((0 + zln ck) + 1) + zln w0) + 1) + zln f0)), .int (zI iw), .int (zI dg)])), (v9, .inl (cy 0, 188, .inl v)), (n9, .inl (cy 0, 40, .inl (zlw (upd (zlw (upd (zlw lx 0 ck) (0 + zln ck) 58) ((0 + zln ck) + 1) w0) (((0 + zln ck) + 1) + zln w0) 102) ((((0 + zln ck) + 1) + zln w0) + 1) f0)))] H := hP
      have hD : va_D A [(x9, .inr (10, [.int 0, .int (nI ch), .int era, .int why, .int det, .int cau, .int (zI sv), .int (zI rj), .ref v9, .ref b9, .ref s9, .ref k9, .ref p9, .ref t9, .ref n9, .int (nI tn), .int (nI he), .int (nI en), .int (nI (((((0 + zln ck) + 1) + zln w0) + 1) + zln f0)), .int (zI iw), .int (zI dg)])), (v9, .inl (cy 0, 188, .inl v)), (n9, .inl (cy 0, 40, .inl (zlw (upd (zlw (upd (zlw lx 0 ck) (0 + zln ck) 58) ((0 + zln ck) + 1) w0) (((0 + zln ck) + 1) + zln w0) 102) ((((0 + zln ck) + 1) + zln w0) + 1) f0)))] := hD
      refine lv_aload_n hx hb dX6_writeCourse_77 rfl (lv_at hl 1 rfl) ?_
      refine lv_bipush (v := 121) hx hb dX6_writeCourse_78 (by decide) ?_
      refine zcV (As := [.int 121]) (rest := []) [0, 2] 0 hg.1 ⟨hx, hb, hml, hown, hts⟩ (c_X6_writes hg l D cy x9 0 ch era why det cau sv rj v9 b9 s9 k9 p9 t9 n9 tn he en (((((0 + zln ck) + 1) + zln w0) + 1) + zln f0) iw dg (zlw (upd (zlw (upd (zlw lx 0 ck) (0 + zln ck) 58) ((0 + zln ck) + 1) w0) (((0 + zln ck) + 1) + zln w0) 102) ((((0 + zln ck) + 1) + zln w0) + 1) f0) 121 (by have := zln_le ck; have := zln_le w0; have := zln_le f0; have := zln_le y0; have := zln_le d0; omega)) (cwV 1 hts gX6_writeCourse_X6_writes rfl rfl rfl (by decide +kernel) ⟨Nat.le_of_ble_eq_true rfl, Nat.le_of_ble_eq_true rfl⟩) hG hK hP hD hS hA rfl rfl (Eq.trans (b := [x9, n9]) rfl rfl) rfl rfl rfl hl.1 rfl (Nat.le_of_ble_eq_true rfl) dX6_writeCourse_80 ⟨Nat.zero_le _, Nat.zero_le _⟩ (fun H locs hP hD hS => ?_)
      have hP : va_P D vwCl [(x9, .inr (10, [.int 0, .int (nI ch), .int era, .int why, .int det, .int cau, .int (zI sv), .int (zI rj), .ref v9, .ref b9, .ref s9, .ref k9, .ref p9, .ref t9, .ref n9, .int (nI tn), .int (nI he), .int (nI en), .int (nI ((((((0 + zln ck) + 1) + zln w0) + 1) + zln f0) + 1)), .int (zI iw), .int (zI dg)])), (v9, .inl (cy 0, 188, .inl v)), (n9, .inl (cy 0, 40, .inl (upd (zlw (upd (zlw (upd (zlw lx 0 ck) (0 + zln ck) 58) ((0 + zln ck) + 1) w0) (((0 + zln ck) + 1) + zln w0) 102) ((((0 + zln ck) + 1) + zln w0) + 1) f0) (((((0 + zln ck) + 1) + zln w0) + 1) + zln f0) 121)))] H := hP
      have hD : va_D A [(x9, .inr (10, [.int 0, .int (nI ch), .int era, .int why, .int det, .int cau, .int (zI sv), .int (zI rj), .ref v9, .ref b9, .ref s9, .ref k9, .ref p9, .ref t9, .ref n9, .int (nI tn), .int (nI he), .int (nI en), .int (nI ((((((0 + zln ck) + 1) + zln w0) + 1) + zln f0) + 1)), .int (zI iw), .int (zI dg)])), (v9, .inl (cy 0, 188, .inl v)), (n9, .inl (cy 0, 40, .inl (upd (zlw (upd (zlw (upd (zlw lx 0 ck) (0 + zln ck) 58) ((0 + zln ck) + 1) w0) (((0 + zln ck) + 1) + zln w0) 102) ((((0 + zln ck) + 1) + zln w0) + 1) f0) (((((0 + zln ck) + 1) + zln w0) + 1) + zln f0) 121)))] := hD
      refine lv_aload_n hx hb dX6_writeCourse_83 rfl (lv_at hl 1 rfl) ?_
      refine lv_aload_n hx hb dX6_writeCourse_84 rfl (lv_at hl 1 rfl) ?_
      refine va_get (D := D) (ci := 10) (v := .ref v9) (C := RX6) (T := TX6) (N := 21) hx hb hts in_RX6 hown hK hP 0 rfl rfl 8 (by decide) (hts _ (List.mem_of_getElem? (i := 3) rfl)) (fun _ h9 => h9) rfl dX6_writeCourse_85 ?_
      refine lv_iload_n hx hb dX6_writeCourse_88 rfl (lv_at hl 0 rfl) ?_
      refine lv_iconst (v := 2) hx hb dX6_writeCourse_89 (by decide) ?_
      refine lv_iadd hx hb dX6_writeCourse_90 ?_
      refine z_top (y := nI ((68 + (4 * ck)) + 2)) (nI_add (68 + (4 * ck)) 2) ?_
      refine ziald 1 0 ((68 + (4 * ck)) + 2) hx hb hK hP rfl rfl (by omega) (z_lt rfl) dX6_writeCourse_91 ?_
      refine z_top (y := nI y0) (hy0) ?_
      refine zcV (As := [.int (nI y0)]) (rest := []) [0, 2] 0 hg.1 ⟨hx, hb, hml, hown, hts⟩ (c_X6_writesNumber_any hg l D cy x9 0 ch era why det cau sv rj v9 b9 s9 k9 p9 t9 n9 tn he en ((((((0 + zln ck) + 1) + zln w0) + 1) + zln f0) + 1) iw dg (upd (zlw (upd (zlw (upd (zlw lx 0 ck) (0 + zln ck) 58) ((0 + zln ck) + 1) w0) (((0 + zln ck) + 1) + zln w0) 102) ((((0 + zln ck) + 1) + zln w0) + 1) f0) (((((0 + zln ck) + 1) + zln w0) + 1) + zln f0) 121) y0 (by have := zln_le ck; have := zln_le w0; have := zln_le f0; have := zln_le y0; have := zln_le d0; omega) (by have := zln_le ck; have := zln_le w0; have := zln_le f0; have := zln_le y0; have := zln_le d0; omega)) (cwV 1 hts gX6_writeCourse_X6_writesNumber rfl rfl rfl (by decide +kernel) ⟨Nat.le_of_ble_eq_true rfl, Nat.le_of_ble_eq_true rfl⟩) hG hK hP hD hS hA rfl rfl (Eq.trans (b := [x9, n9]) rfl rfl) rfl rfl rfl hl.1 rfl (Nat.le_of_ble_eq_true rfl) dX6_writeCourse_92 ⟨Nat.zero_le _, Nat.zero_le _⟩ (fun H locs hP hD hS => ?_)
      have hP : va_P D vwCl [(x9, .inr (10, [.int 0, .int (nI ch), .int era, .int why, .int det, .int cau, .int (zI sv), .int (zI rj), .ref v9, .ref b9, .ref s9, .ref k9, .ref p9, .ref t9, .ref n9, .int (nI tn), .int (nI he), .int (nI en), .int (nI (((((((0 + zln ck) + 1) + zln w0) + 1) + zln f0) + 1) + zln y0)), .int (zI iw), .int (zI dg)])), (v9, .inl (cy 0, 188, .inl v)), (n9, .inl (cy 0, 40, .inl (zlw (upd (zlw (upd (zlw (upd (zlw lx 0 ck) (0 + zln ck) 58) ((0 + zln ck) + 1) w0) (((0 + zln ck) + 1) + zln w0) 102) ((((0 + zln ck) + 1) + zln w0) + 1) f0) (((((0 + zln ck) + 1) + zln w0) + 1) + zln f0) 121) ((((((0 + zln ck) + 1) + zln w0) + 1) + zln f0) + 1) y0)))] H := hP
      have hD : va_D A [(x9, .inr (10, [.int 0, .int (nI ch), .int era, .int why, .int det, .int cau, .int (zI sv), .int (zI rj), .ref v9, .ref b9, .ref s9, .ref k9, .ref p9, .ref t9, .ref n9, .int (nI tn), .int (nI he), .int (nI en), .int (nI (((((((0 + zln ck) + 1) + zln w0) + 1) + zln f0) + 1) + zln y0)), .int (zI iw), .int (zI dg)])), (v9, .inl (cy 0, 188, .inl v)), (n9, .inl (cy 0, 40, .inl (zlw (upd (zlw (upd (zlw (upd (zlw lx 0 ck) (0 + zln ck) 58) ((0 + zln ck) + 1) w0) (((0 + zln ck) + 1) + zln w0) 102) ((((0 + zln ck) + 1) + zln w0) + 1) f0) (((((0 + zln ck) + 1) + zln w0) + 1) + zln f0) 121) ((((((0 + zln ck) + 1) + zln w0) + 1) + zln f0) + 1) y0)))] := hD
      refine lv_aload_n hx hb dX6_writeCourse_95 rfl (lv_at hl 1 rfl) ?_
      refine va_get (D := D) (ci := 10) (v := .ref v9) (C := RX6) (T := TX6) (N := 21) hx hb hts in_RX6 hown hK hP 0 rfl rfl 8 (by decide) (hts _ (List.mem_of_getElem? (i := 3) rfl)) (fun _ h9 => h9) rfl dX6_writeCourse_96 ?_
      refine lv_iload_n hx hb dX6_writeCourse_99 rfl (lv_at hl 0 rfl) ?_
      refine lv_iconst (v := 3) hx hb dX6_writeCourse_100 (by decide) ?_
      refine lv_iadd hx hb dX6_writeCourse_101 ?_
      refine z_top (y := nI ((68 + (4 * ck)) + 3)) (nI_add (68 + (4 * ck)) 3) ?_
      refine ziald 1 0 ((68 + (4 * ck)) + 3) hx hb hK hP rfl rfl (by omega) (z_lt rfl) dX6_writeCourse_102 ?_
      refine z_top (y := nI d0) (hd0) ?_
      refine lv_if_le (tgt := 124) hx hb dX6_writeCourse_103 (by decide) (fun c_3 => ?_) (fun c_3 => ?_)
      · exact absurd c_3 (nI_npos2 hd1 (by omega))
      · refine lv_aload_n hx hb dX6_writeCourse_106 rfl (lv_at hl 1 rfl) ?_
        refine lv_bipush (v := 33) hx hb dX6_writeCourse_107 (by decide) ?_
        refine zcV (As := [.int 33]) (rest := []) [0, 2] 0 hg.1 ⟨hx, hb, hml, hown, hts⟩ (c_X6_writes hg l D cy x9 0 ch era why det cau sv rj v9 b9 s9 k9 p9 t9 n9 tn he en (((((((0 + zln ck) + 1) + zln w0) + 1) + zln f0) + 1) + zln y0) iw dg (zlw (upd (zlw (upd (zlw (upd (zlw lx 0 ck) (0 + zln ck) 58) ((0 + zln ck) + 1) w0) (((0 + zln ck) + 1) + zln w0) 102) ((((0 + zln ck) + 1) + zln w0) + 1) f0) (((((0 + zln ck) + 1) + zln w0) + 1) + zln f0) 121) ((((((0 + zln ck) + 1) + zln w0) + 1) + zln f0) + 1) y0) 33 (by have := zln_le ck; have := zln_le w0; have := zln_le f0; have := zln_le y0; have := zln_le d0; omega)) (cwV 1 hts gX6_writeCourse_X6_writes rfl rfl rfl (by decide +kernel) ⟨Nat.le_of_ble_eq_true rfl, Nat.le_of_ble_eq_true rfl⟩) hG hK hP hD hS hA rfl rfl (Eq.trans (b := [x9, n9]) rfl rfl) rfl rfl rfl hl.1 rfl (Nat.le_of_ble_eq_true rfl) dX6_writeCourse_109 ⟨Nat.zero_le _, Nat.zero_le _⟩ (fun H locs hP hD hS => ?_)
        have hP : va_P D vwCl [(x9, .inr (10, [.int 0, .int (nI ch), .int era, .int why, .int det, .int cau, .int (zI sv), .int (zI rj), .ref v9, .ref b9, .ref s9, .ref k9, .ref p9, .ref t9, .ref n9, .int (nI tn), .int (nI he), .int (nI en), .int (nI ((((((((0 + zln ck) + 1) + zln w0) + 1) + zln f0) + 1) + zln y0) + 1)), .int (zI iw), .int (zI dg)])), (v9, .inl (cy 0, 188, .inl v)), (n9, .inl (cy 0, 40, .inl (upd (zlw (upd (zlw (upd (zlw (upd (zlw lx 0 ck) (0 + zln ck) 58) ((0 + zln ck) + 1) w0) (((0 + zln ck) + 1) + zln w0) 102) ((((0 + zln ck) + 1) + zln w0) + 1) f0) (((((0 + zln ck) + 1) + zln w0) + 1) + zln f0) 121) ((((((0 + zln ck) + 1) + zln w0) + 1) + zln f0) + 1) y0) (((((((0 + zln ck) + 1) + zln w0) + 1) + zln f0) + 1) + zln y0) 33)))] H := hP
        have hD : va_D A [(x9, .inr (10, [.int 0, .int (nI ch), .int era, .int why, .int det, .int cau, .int (zI sv), .int (zI rj), .ref v9, .ref b9, .ref s9, .ref k9, .ref p9, .ref t9, .ref n9, .int (nI tn), .int (nI he), .int (nI en), .int (nI ((((((((0 + zln ck) + 1) + zln w0) + 1) + zln f0) + 1) + zln y0) + 1)), .int (zI iw), .int (zI dg)])), (v9, .inl (cy 0, 188, .inl v)), (n9, .inl (cy 0, 40, .inl (upd (zlw (upd (zlw (upd (zlw (upd (zlw lx 0 ck) (0 + zln ck) 58) ((0 + zln ck) + 1) w0) (((0 + zln ck) + 1) + zln w0) 102) ((((0 + zln ck) + 1) + zln w0) + 1) f0) (((((0 + zln ck) + 1) + zln w0) + 1) + zln f0) 121) ((((((0 + zln ck) + 1) + zln w0) + 1) + zln f0) + 1) y0) (((((((0 + zln ck) + 1) + zln w0) + 1) + zln f0) + 1) + zln y0) 33)))] := hD
        refine lv_aload_n hx hb dX6_writeCourse_112 rfl (lv_at hl 1 rfl) ?_
        refine lv_aload_n hx hb dX6_writeCourse_113 rfl (lv_at hl 1 rfl) ?_
        refine va_get (D := D) (ci := 10) (v := .ref v9) (C := RX6) (T := TX6) (N := 21) hx hb hts in_RX6 hown hK hP 0 rfl rfl 8 (by decide) (hts _ (List.mem_of_getElem? (i := 3) rfl)) (fun _ h9 => h9) rfl dX6_writeCourse_114 ?_
        refine lv_iload_n hx hb dX6_writeCourse_117 rfl (lv_at hl 0 rfl) ?_
        refine lv_iconst (v := 3) hx hb dX6_writeCourse_118 (by decide) ?_
        refine lv_iadd hx hb dX6_writeCourse_119 ?_
        refine z_top (y := nI ((68 + (4 * ck)) + 3)) (nI_add (68 + (4 * ck)) 3) ?_
        refine ziald 1 0 ((68 + (4 * ck)) + 3) hx hb hK hP rfl rfl (by omega) (z_lt rfl) dX6_writeCourse_120 ?_
        refine z_top (y := nI d0) (hd0) ?_
        refine zcV (As := [.int (nI d0)]) (rest := []) [0, 2] 0 hg.1 ⟨hx, hb, hml, hown, hts⟩ (c_X6_writesNumber_any hg l D cy x9 0 ch era why det cau sv rj v9 b9 s9 k9 p9 t9 n9 tn he en ((((((((0 + zln ck) + 1) + zln w0) + 1) + zln f0) + 1) + zln y0) + 1) iw dg (upd (zlw (upd (zlw (upd (zlw (upd (zlw lx 0 ck) (0 + zln ck) 58) ((0 + zln ck) + 1) w0) (((0 + zln ck) + 1) + zln w0) 102) ((((0 + zln ck) + 1) + zln w0) + 1) f0) (((((0 + zln ck) + 1) + zln w0) + 1) + zln f0) 121) ((((((0 + zln ck) + 1) + zln w0) + 1) + zln f0) + 1) y0) (((((((0 + zln ck) + 1) + zln w0) + 1) + zln f0) + 1) + zln y0) 33) d0 (by have := zln_le ck; have := zln_le w0; have := zln_le f0; have := zln_le y0; have := zln_le d0; omega) (by have := zln_le ck; have := zln_le w0; have := zln_le f0; have := zln_le y0; have := zln_le d0; omega)) (cwV 1 hts gX6_writeCourse_X6_writesNumber rfl rfl rfl (by decide +kernel) ⟨Nat.le_of_ble_eq_true rfl, Nat.le_of_ble_eq_true rfl⟩) hG hK hP hD hS hA rfl rfl (Eq.trans (b := [x9, n9]) rfl rfl) rfl rfl rfl hl.1 rfl (Nat.le_of_ble_eq_true rfl) dX6_writeCourse_121 ⟨Nat.zero_le _, Nat.zero_le _⟩ (fun H locs hP hD hS => ?_)
        have hP : va_P D vwCl [(x9, .inr (10, [.int 0, .int (nI ch), .int era, .int why, .int det, .int cau, .int (zI sv), .int (zI rj), .ref v9, .ref b9, .ref s9, .ref k9, .ref p9, .ref t9, .ref n9, .int (nI tn), .int (nI he), .int (nI en), .int (nI (((((((((0 + zln ck) + 1) + zln w0) + 1) + zln f0) + 1) + zln y0) + 1) + zln d0)), .int (zI iw), .int (zI dg)])), (v9, .inl (cy 0, 188, .inl v)), (n9, .inl (cy 0, 40, .inl (zlw (upd (zlw (upd (zlw (upd (zlw (upd (zlw lx 0 ck) (0 + zln ck) 58) ((0 + zln ck) + 1) w0) (((0 + zln ck) + 1) + zln w0) 102) ((((0 + zln ck) + 1) + zln w0) + 1) f0) (((((0 + zln ck) + 1) + zln w0) + 1) + zln f0) 121) ((((((0 + zln ck) + 1) + zln w0) + 1) + zln f0) + 1) y0) (((((((0 + zln ck) + 1) + zln w0) + 1) + zln f0) + 1) + zln y0) 33) ((((((((0 + zln ck) + 1) + zln w0) + 1) + zln f0) + 1) + zln y0) + 1) d0)))] H := hP
        have hD : va_D A [(x9, .inr (10, [.int 0, .int (nI ch), .int era, .int why, .int det, .int cau, .int (zI sv), .int (zI rj), .ref v9, .ref b9, .ref s9, .ref k9, .ref p9, .ref t9, .ref n9, .int (nI tn), .int (nI he), .int (nI en), .int (nI (((((((((0 + zln ck) + 1) + zln w0) + 1) + zln f0) + 1) + zln y0) + 1) + zln d0)), .int (zI iw), .int (zI dg)])), (v9, .inl (cy 0, 188, .inl v)), (n9, .inl (cy 0, 40, .inl (zlw (upd (zlw (upd (zlw (upd (zlw (upd (zlw lx 0 ck) (0 + zln ck) 58) ((0 + zln ck) + 1) w0) (((0 + zln ck) + 1) + zln w0) 102) ((((0 + zln ck) + 1) + zln w0) + 1) f0) (((((0 + zln ck) + 1) + zln w0) + 1) + zln f0) 121) ((((((0 + zln ck) + 1) + zln w0) + 1) + zln f0) + 1) y0) (((((((0 + zln ck) + 1) + zln w0) + 1) + zln f0) + 1) + zln y0) 33) ((((((((0 + zln ck) + 1) + zln w0) + 1) + zln f0) + 1) + zln y0) + 1) d0)))] := hD
        refine lv_aload_n hx hb dX6_writeCourse_124 rfl (lv_at hl 1 rfl) ?_
        refine va_get (D := D) (ci := 10) (v := .int (nI (((((((((0 + zln ck) + 1) + zln w0) + 1) + zln f0) + 1) + zln y0) + 1) + zln d0))) (C := RX6) (T := TX6) (N := 21) hx hb hts in_RX6 hown hK hP 0 rfl rfl 18 (by decide) (hts _ (List.mem_of_getElem? (i := 2) rfl)) (fun _ h9 => h9) rfl dX6_writeCourse_125 ?_
        exact ziret hend hx hb hr hlk hK hP hD hS dX6_writeCourse_128 (by rfl) (by rfl)
    · exact absurd c_2 (by decide)

abbrev rmX6_writeCourse_bad : Room := { frames := 2, cells := 0, slots := 0, locals := 43 }
set_option maxHeartbeats 4000000 in
set_option maxRecDepth 100000 in
theorem c_X6_writeCourse_bad {G : zG} (hg : zGN G) (l : Launch) (D : va_G) (cy : Nat → ClassId) (x9 : Nat) (th : Int32) (ch : Nat) (era : Int32) (why : Int32) (det : Int32) (cau : Int32) (sv : Bool) (rj : Bool) (v9 : Nat) (b9 : Nat) (s9 : Nat) (k9 : Nat) (p9 : Nat) (t9 : Nat) (n9 : Nat) (tn : Nat) (he : Nat) (en : Nat) (ln : Nat) (iw : Bool) (dg : Bool) (v : Nat → Int32) (nq : Int32) (hq : zic 0 (v 5 - 1) nq = false) : zM G D vwCl (zT cy) l yX6_writeCourse wsX6_writeCourse rmX6_writeCourse_bad [.ref x9, .int nq] [(x9, .inr (10, [.int th, .int (nI ch), .int era, .int why, .int det, .int cau, .int (zI sv), .int (zI rj), .ref v9, .ref b9, .ref s9, .ref k9, .ref p9, .ref t9, .ref n9, .int (nI tn), .int (nI he), .int (nI en), .int (nI ln), .int (zI iw), .int (zI dg)])), (v9, .inl (cy 0, 188, .inl v))] (some (.int 0)) [(x9, .inr (10, [.int 1, .int (nI ch), .int era, .int why, .int det, .int cau, .int (zI sv), .int (zI rj), .ref v9, .ref b9, .ref s9, .ref k9, .ref p9, .ref t9, .ref n9, .int (nI tn), .int (nI he), .int (nI en), .int (nI ln), .int (zI iw), .int (zI dg)])), (v9, .inl (cy 0, 188, .inl v))] := by
  refine zM_of (cc := cX6_writeCourse) (maxL := 3) (ret := (some .int)) (by decide) rfl (Nat.le_of_ble_eq_true rfl) ?_
  intro p e s m below meth c A Q hend hx hb hml hr hts hown hlk hG hK hP hD hA hS ls hl
  have hown : s.vm.findClass RX6 = some m.cls := hown
  have in_RX6 : ∀ w ∈ u_ws RX6 TX6 21, w ∈ wsX6_writeCourse := by decide +kernel
  have hl : lv_has ls 3 [(0, .ref x9), (1, .int nq)] := hl
  refine lv_aload_n hx hb dX6_writeCourse_0 rfl (lv_at hl 0 rfl) ?_
  refine lv_aload_n hx hb dX6_writeCourse_1 rfl (lv_at hl 0 rfl) ?_
  refine lv_iload_n hx hb dX6_writeCourse_2 rfl (lv_at hl 1 rfl) ?_
  refine zcV (As := [.int nq]) (rest := [.ref x9]) [0, 1] 0 hg.1 ⟨hx, hb, hml, hown, hts⟩ (c_X6_isCourse hg l D cy x9 th ch era why det cau sv rj v9 b9 s9 k9 p9 t9 n9 tn he en ln iw dg v nq) (cwV 1 hts gX6_writeCourse_X6_isCourse rfl rfl rfl (by decide +kernel) ⟨Nat.le_of_ble_eq_true rfl, Nat.le_of_ble_eq_true rfl⟩) hG hK hP hD hS hA rfl rfl rfl rfl rfl rfl hl.1 rfl (Nat.le_of_ble_eq_true rfl) dX6_writeCourse_3 ⟨Nat.zero_le _, Nat.zero_le _⟩ (fun H locs hP hD hS => ?_)
  have hP : va_P D vwCl [(x9, .inr (10, [.int th, .int (nI ch), .int era, .int why, .int det, .int cau, .int (zI sv), .int (zI rj), .ref v9, .ref b9, .ref s9, .ref k9, .ref p9, .ref t9, .ref n9, .int (nI tn), .int (nI he), .int (nI en), .int (nI ln), .int (zI iw), .int (zI dg)])), (v9, .inl (cy 0, 188, .inl v))] H := hP
  have hD : va_D A [(x9, .inr (10, [.int th, .int (nI ch), .int era, .int why, .int det, .int cau, .int (zI sv), .int (zI rj), .ref v9, .ref b9, .ref s9, .ref k9, .ref p9, .ref t9, .ref n9, .int (nI tn), .int (nI he), .int (nI en), .int (nI ln), .int (zI iw), .int (zI dg)])), (v9, .inl (cy 0, 188, .inl v))] := hD
  refine lv_if_eq (tgt := 13) hx hb dX6_writeCourse_6 (by decide) (fun c_1 => ?_) (fun c_1 => ?_)
  · replace c_1 := zI0 c_1
    refine lv_iconst (v := 1) hx hb dX6_writeCourse_13 (by decide) ?_
    refine va_put (D := D) (ci := 10) (v := .int 1) (ty := .int) (C := RX6) (T := TX6) (N := 21) hx hb hts in_RX6 tyX6 tyX6_ok nmX6 hown hK hP hD hS 0 rfl rfl 0 (by decide) (hts _ (List.mem_of_getElem? (i := 1) rfl)) (fun _ h9 => h9) rfl (by decide +kernel) rfl rfl (Nat.le_of_ble_eq_true rfl) dX6_writeCourse_14 (fun H locs hP hD hS => ?_)
    have hP : va_P D vwCl [(x9, .inr (10, [.int 1, .int (nI ch), .int era, .int why, .int det, .int cau, .int (zI sv), .int (zI rj), .ref v9, .ref b9, .ref s9, .ref k9, .ref p9, .ref t9, .ref n9, .int (nI tn), .int (nI he), .int (nI en), .int (nI ln), .int (zI iw), .int (zI dg)])), (v9, .inl (cy 0, 188, .inl v))] H := hP
    have hD : va_D A [(x9, .inr (10, [.int 1, .int (nI ch), .int era, .int why, .int det, .int cau, .int (zI sv), .int (zI rj), .ref v9, .ref b9, .ref s9, .ref k9, .ref p9, .ref t9, .ref n9, .int (nI tn), .int (nI he), .int (nI en), .int (nI ln), .int (zI iw), .int (zI dg)])), (v9, .inl (cy 0, 188, .inl v))] := hD
    refine lv_aload_n hx hb dX6_writeCourse_17 rfl (lv_at hl 0 rfl) ?_
    refine va_get (D := D) (ci := 10) (v := .int 1) (C := RX6) (T := TX6) (N := 21) hx hb hts in_RX6 hown hK hP 0 rfl rfl 0 (by decide) (hts _ (List.mem_of_getElem? (i := 1) rfl)) (fun _ h9 => h9) rfl dX6_writeCourse_18 ?_
    refine lv_if_eq (tgt := 26) hx hb dX6_writeCourse_21 (by decide) (fun c_2 => ?_) (fun c_2 => ?_)
    · exact absurd c_2 (by decide)
    · refine lv_iconst (v := 0) hx hb dX6_writeCourse_24 (by decide) ?_
      exact ziret hend hx hb hr hlk hK hP hD hS dX6_writeCourse_25 rfl rfl
  · replace c_1 := zI1 c_1
    exact absurd (hq.symm.trans c_1) (by decide)

abbrev rmX6_outputAt_ok : Room := { frames := 1, cells := 0, slots := 0, locals := 22 }
set_option maxHeartbeats 4000000 in
set_option maxRecDepth 100000 in
theorem c_X6_outputAt_ok {G : zG} (hg : zGN G) (l : Launch) (D : va_G) (cy : Nat → ClassId) (x9 : Nat) (th : Int32) (ch : Nat) (era : Int32) (why : Int32) (det : Int32) (cau : Int32) (sv : Bool) (rj : Bool) (v9 : Nat) (b9 : Nat) (s9 : Nat) (k9 : Nat) (p9 : Nat) (t9 : Nat) (n9 : Nat) (tn : Nat) (he : Nat) (en : Nat) (ln : Nat) (iw : Bool) (dg : Bool) (lx : Nat → Int32) (a : Nat) (ha : a < ln) (hln : ln ≤ 40) : zM G D vwCl (zT cy) l yX6_outputAt wsX6_outputAt rmX6_outputAt_ok [.ref x9, .int (nI a)] [(x9, .inr (10, [.int th, .int (nI ch), .int era, .int why, .int det, .int cau, .int (zI sv), .int (zI rj), .ref v9, .ref b9, .ref s9, .ref k9, .ref p9, .ref t9, .ref n9, .int (nI tn), .int (nI he), .int (nI en), .int (nI ln), .int (zI iw), .int (zI dg)])), (n9, .inl (cy 0, 40, .inl lx))] (some (.int (((lx a).toUInt32 % 65536).toInt32))) [(x9, .inr (10, [.int 0, .int (nI ch), .int era, .int why, .int det, .int cau, .int (zI sv), .int (zI rj), .ref v9, .ref b9, .ref s9, .ref k9, .ref p9, .ref t9, .ref n9, .int (nI tn), .int (nI he), .int (nI en), .int (nI ln), .int (zI iw), .int (zI dg)])), (n9, .inl (cy 0, 40, .inl lx))] := by
  refine zM_of (cc := cX6_outputAt) (maxL := 2) (ret := (some .char)) (by decide) rfl (Nat.le_of_ble_eq_true rfl) ?_
  intro p e s m below meth c A Q hend hx hb hml hr hts hown hlk hG hK hP hD hA hS ls hl
  have hown : s.vm.findClass RX6 = some m.cls := hown
  have in_RX6 : ∀ w ∈ u_ws RX6 TX6 21, w ∈ wsX6_outputAt := by decide +kernel
  have hl : lv_has ls 2 [(0, .ref x9), (1, .int (nI a))] := hl
  refine lv_aload_n hx hb dX6_outputAt_0 rfl (lv_at hl 0 rfl) ?_
  refine lv_iload_n hx hb dX6_outputAt_1 rfl (lv_at hl 1 rfl) ?_
  refine lv_iconst (v := 0) hx hb dX6_outputAt_2 (by decide) ?_
  refine lv_aload_n hx hb dX6_outputAt_3 rfl (lv_at hl 0 rfl) ?_
  refine va_get (D := D) (ci := 10) (v := .int (nI ln)) (C := RX6) (T := TX6) (N := 21) hx hb hts in_RX6 hown hK hP 0 rfl rfl 18 (by decide) (hts _ (List.mem_of_getElem? (i := 1) rfl)) (fun _ h9 => h9) rfl dX6_outputAt_4 ?_
  refine lv_iconst (v := 1) hx hb dX6_outputAt_7 (by decide) ?_
  refine lv_isub hx hb dX6_outputAt_8 ?_
  refine zcS (As := [.int (nI a), .int 0, .int ((nI ln) - 1)]) (rest := [.ref x9]) [] hg.1 ⟨hx, hb, hml, hown, hts⟩ (c_X6_isIn hg l D cy (nI a) 0 ((nI ln) - 1)) (va_cwS 3 hts gX6_outputAt_X6_isIn rfl rfl rfl (by decide +kernel) ⟨Nat.le_of_ble_eq_true rfl, Nat.le_of_ble_eq_true rfl⟩) hG hK hP hD hS hA rfl rfl rfl  rfl hl.1 rfl (Nat.le_of_ble_eq_true rfl) dX6_outputAt_9 ⟨Nat.zero_le _, Nat.zero_le _⟩ (fun H locs hP hD hS => ?_)
  have hP : va_P D vwCl [(x9, .inr (10, [.int th, .int (nI ch), .int era, .int why, .int det, .int cau, .int (zI sv), .int (zI rj), .ref v9, .ref b9, .ref s9, .ref k9, .ref p9, .ref t9, .ref n9, .int (nI tn), .int (nI he), .int (nI en), .int (nI ln), .int (zI iw), .int (zI dg)])), (n9, .inl (cy 0, 40, .inl lx))] H := hP
  have hD : va_D A [(x9, .inr (10, [.int th, .int (nI ch), .int era, .int why, .int det, .int cau, .int (zI sv), .int (zI rj), .ref v9, .ref b9, .ref s9, .ref k9, .ref p9, .ref t9, .ref n9, .int (nI tn), .int (nI he), .int (nI en), .int (nI ln), .int (zI iw), .int (zI dg)])), (n9, .inl (cy 0, 40, .inl lx))] := hD
  refine lv_if_eq (tgt := 19) hx hb dX6_outputAt_12 (by decide) (fun c_1 => ?_) (fun c_1 => ?_)
  · replace c_1 := zI0 c_1
    exact absurd ((zic_c (by omega) ha).symm.trans c_1) (by decide)
  · replace c_1 := zI1 c_1
    refine lv_iconst (v := 0) hx hb dX6_outputAt_15 (by decide) ?_
    refine lv_goto (tgt := 20) hx hb dX6_outputAt_16 (by decide) ?_
    refine va_put (D := D) (ci := 10) (v := .int 0) (ty := .int) (C := RX6) (T := TX6) (N := 21) hx hb hts in_RX6 tyX6 tyX6_ok nmX6 hown hK hP hD hS 0 rfl rfl 0 (by decide) (hts _ (List.mem_of_getElem? (i := 2) rfl)) (fun _ h9 => h9) rfl (by decide +kernel) rfl rfl (Nat.le_of_ble_eq_true rfl) dX6_outputAt_20 (fun H locs hP hD hS => ?_)
    have hP : va_P D vwCl [(x9, .inr (10, [.int 0, .int (nI ch), .int era, .int why, .int det, .int cau, .int (zI sv), .int (zI rj), .ref v9, .ref b9, .ref s9, .ref k9, .ref p9, .ref t9, .ref n9, .int (nI tn), .int (nI he), .int (nI en), .int (nI ln), .int (zI iw), .int (zI dg)])), (n9, .inl (cy 0, 40, .inl lx))] H := hP
    have hD : va_D A [(x9, .inr (10, [.int 0, .int (nI ch), .int era, .int why, .int det, .int cau, .int (zI sv), .int (zI rj), .ref v9, .ref b9, .ref s9, .ref k9, .ref p9, .ref t9, .ref n9, .int (nI tn), .int (nI he), .int (nI en), .int (nI ln), .int (zI iw), .int (zI dg)])), (n9, .inl (cy 0, 40, .inl lx))] := hD
    refine lv_aload_n hx hb dX6_outputAt_23 rfl (lv_at hl 0 rfl) ?_
    refine va_get (D := D) (ci := 10) (v := .int 0) (C := RX6) (T := TX6) (N := 21) hx hb hts in_RX6 hown hK hP 0 rfl rfl 0 (by decide) (hts _ (List.mem_of_getElem? (i := 2) rfl)) (fun _ h9 => h9) rfl dX6_outputAt_24 ?_
    refine lv_if_ne (tgt := 40) hx hb dX6_outputAt_27 (by decide) (fun c_2 => ?_) (fun c_2 => ?_)
    · exact absurd c_2 (by decide)
    · refine lv_aload_n hx hb dX6_outputAt_30 rfl (lv_at hl 0 rfl) ?_
      refine va_get (D := D) (ci := 10) (v := .ref n9) (C := RX6) (T := TX6) (N := 21) hx hb hts in_RX6 hown hK hP 0 rfl rfl 14 (by decide) (hts _ (List.mem_of_getElem? (i := 3) rfl)) (fun _ h9 => h9) rfl dX6_outputAt_31 ?_
      refine lv_iload_n hx hb dX6_outputAt_34 rfl (lv_at hl 1 rfl) ?_
      refine ziald 1 0 a hx hb hK hP rfl rfl (by omega) (z_lt rfl) dX6_outputAt_35 ?_
      refine lv_i2c hx hb dX6_outputAt_36 rfl ?_
      refine lv_goto (tgt := 42) hx hb dX6_outputAt_37 (by decide) ?_
      exact zzret hend hx hb hr hlk hK hP hD hS dX6_outputAt_42 (pk_nc _) rfl rfl

abbrev rmX6_outputAt_bad : Room := { frames := 1, cells := 0, slots := 0, locals := 22 }
set_option maxHeartbeats 4000000 in
set_option maxRecDepth 100000 in
theorem c_X6_outputAt_bad {G : zG} (hg : zGN G) (l : Launch) (D : va_G) (cy : Nat → ClassId) (x9 : Nat) (th : Int32) (ch : Nat) (era : Int32) (why : Int32) (det : Int32) (cau : Int32) (sv : Bool) (rj : Bool) (v9 : Nat) (b9 : Nat) (s9 : Nat) (k9 : Nat) (p9 : Nat) (t9 : Nat) (n9 : Nat) (tn : Nat) (he : Nat) (en : Nat) (ln : Nat) (iw : Bool) (dg : Bool) (nq : Int32) (hq : zic 0 (nI ln - 1) nq = false) : zM G D vwCl (zT cy) l yX6_outputAt wsX6_outputAt rmX6_outputAt_bad [.ref x9, .int nq] [(x9, .inr (10, [.int th, .int (nI ch), .int era, .int why, .int det, .int cau, .int (zI sv), .int (zI rj), .ref v9, .ref b9, .ref s9, .ref k9, .ref p9, .ref t9, .ref n9, .int (nI tn), .int (nI he), .int (nI en), .int (nI ln), .int (zI iw), .int (zI dg)]))] (some (.int 97)) [(x9, .inr (10, [.int 1, .int (nI ch), .int era, .int why, .int det, .int cau, .int (zI sv), .int (zI rj), .ref v9, .ref b9, .ref s9, .ref k9, .ref p9, .ref t9, .ref n9, .int (nI tn), .int (nI he), .int (nI en), .int (nI ln), .int (zI iw), .int (zI dg)]))] := by
  refine zM_of (cc := cX6_outputAt) (maxL := 2) (ret := (some .char)) (by decide) rfl (Nat.le_of_ble_eq_true rfl) ?_
  intro p e s m below meth c A Q hend hx hb hml hr hts hown hlk hG hK hP hD hA hS ls hl
  have hown : s.vm.findClass RX6 = some m.cls := hown
  have in_RX6 : ∀ w ∈ u_ws RX6 TX6 21, w ∈ wsX6_outputAt := by decide +kernel
  have hl : lv_has ls 2 [(0, .ref x9), (1, .int nq)] := hl
  refine lv_aload_n hx hb dX6_outputAt_0 rfl (lv_at hl 0 rfl) ?_
  refine lv_iload_n hx hb dX6_outputAt_1 rfl (lv_at hl 1 rfl) ?_
  refine lv_iconst (v := 0) hx hb dX6_outputAt_2 (by decide) ?_
  refine lv_aload_n hx hb dX6_outputAt_3 rfl (lv_at hl 0 rfl) ?_
  refine va_get (D := D) (ci := 10) (v := .int (nI ln)) (C := RX6) (T := TX6) (N := 21) hx hb hts in_RX6 hown hK hP 0 rfl rfl 18 (by decide) (hts _ (List.mem_of_getElem? (i := 1) rfl)) (fun _ h9 => h9) rfl dX6_outputAt_4 ?_
  refine lv_iconst (v := 1) hx hb dX6_outputAt_7 (by decide) ?_
  refine lv_isub hx hb dX6_outputAt_8 ?_
  refine zcS (As := [.int nq, .int 0, .int ((nI ln) - 1)]) (rest := [.ref x9]) [] hg.1 ⟨hx, hb, hml, hown, hts⟩ (c_X6_isIn hg l D cy nq 0 ((nI ln) - 1)) (va_cwS 3 hts gX6_outputAt_X6_isIn rfl rfl rfl (by decide +kernel) ⟨Nat.le_of_ble_eq_true rfl, Nat.le_of_ble_eq_true rfl⟩) hG hK hP hD hS hA rfl rfl rfl  rfl hl.1 rfl (Nat.le_of_ble_eq_true rfl) dX6_outputAt_9 ⟨Nat.zero_le _, Nat.zero_le _⟩ (fun H locs hP hD hS => ?_)
  have hP : va_P D vwCl [(x9, .inr (10, [.int th, .int (nI ch), .int era, .int why, .int det, .int cau, .int (zI sv), .int (zI rj), .ref v9, .ref b9, .ref s9, .ref k9, .ref p9, .ref t9, .ref n9, .int (nI tn), .int (nI he), .int (nI en), .int (nI ln), .int (zI iw), .int (zI dg)]))] H := hP
  have hD : va_D A [(x9, .inr (10, [.int th, .int (nI ch), .int era, .int why, .int det, .int cau, .int (zI sv), .int (zI rj), .ref v9, .ref b9, .ref s9, .ref k9, .ref p9, .ref t9, .ref n9, .int (nI tn), .int (nI he), .int (nI en), .int (nI ln), .int (zI iw), .int (zI dg)]))] := hD
  refine lv_if_eq (tgt := 19) hx hb dX6_outputAt_12 (by decide) (fun c_1 => ?_) (fun c_1 => ?_)
  · replace c_1 := zI0 c_1
    refine lv_iconst (v := 1) hx hb dX6_outputAt_19 (by decide) ?_
    refine va_put (D := D) (ci := 10) (v := .int 1) (ty := .int) (C := RX6) (T := TX6) (N := 21) hx hb hts in_RX6 tyX6 tyX6_ok nmX6 hown hK hP hD hS 0 rfl rfl 0 (by decide) (hts _ (List.mem_of_getElem? (i := 2) rfl)) (fun _ h9 => h9) rfl (by decide +kernel) rfl rfl (Nat.le_of_ble_eq_true rfl) dX6_outputAt_20 (fun H locs hP hD hS => ?_)
    have hP : va_P D vwCl [(x9, .inr (10, [.int 1, .int (nI ch), .int era, .int why, .int det, .int cau, .int (zI sv), .int (zI rj), .ref v9, .ref b9, .ref s9, .ref k9, .ref p9, .ref t9, .ref n9, .int (nI tn), .int (nI he), .int (nI en), .int (nI ln), .int (zI iw), .int (zI dg)]))] H := hP
    have hD : va_D A [(x9, .inr (10, [.int 1, .int (nI ch), .int era, .int why, .int det, .int cau, .int (zI sv), .int (zI rj), .ref v9, .ref b9, .ref s9, .ref k9, .ref p9, .ref t9, .ref n9, .int (nI tn), .int (nI he), .int (nI en), .int (nI ln), .int (zI iw), .int (zI dg)]))] := hD
    refine lv_aload_n hx hb dX6_outputAt_23 rfl (lv_at hl 0 rfl) ?_
    refine va_get (D := D) (ci := 10) (v := .int 1) (C := RX6) (T := TX6) (N := 21) hx hb hts in_RX6 hown hK hP 0 rfl rfl 0 (by decide) (hts _ (List.mem_of_getElem? (i := 2) rfl)) (fun _ h9 => h9) rfl dX6_outputAt_24 ?_
    refine lv_if_ne (tgt := 40) hx hb dX6_outputAt_27 (by decide) (fun c_2 => ?_) (fun c_2 => ?_)
    · refine lv_bipush (v := 97) hx hb dX6_outputAt_40 (by decide) ?_
      exact zzret hend hx hb hr hlk hK hP hD hS dX6_outputAt_42 rfl rfl rfl
    · exact absurd c_2 (by decide)
  · replace c_1 := zI1 c_1
    exact absurd (hq.symm.trans c_1) (by decide)

abbrev rmX6_appendInput_ok : Room := { frames := 1, cells := 0, slots := 0, locals := 22 }
set_option maxHeartbeats 4000000 in
set_option maxRecDepth 100000 in
theorem c_X6_appendInput_ok {G : zG} (hg : zGN G) (l : Launch) (D : va_G) (cy : Nat → ClassId) (x9 : Nat) (th : Int32) (ch : Nat) (era : Int32) (why : Int32) (det : Int32) (cau : Int32) (sv : Bool) (rj : Bool) (v9 : Nat) (b9 : Nat) (s9 : Nat) (k9 : Nat) (p9 : Nat) (t9 : Nat) (n9 : Nat) (tn : Nat) (he : Nat) (en : Nat) (ln : Nat) (iw : Bool) (dg : Bool) (tx : Nat → Int32) (xq : Int32) (hq : zic 32 126 xq = true) (ht : tn < 60) : zM G D vwCl (zT cy) l yX6_appendInput wsX6_appendInput rmX6_appendInput_ok [.ref x9, .int xq] [(x9, .inr (10, [.int th, .int (nI ch), .int era, .int why, .int det, .int cau, .int (zI sv), .int (zI rj), .ref v9, .ref b9, .ref s9, .ref k9, .ref p9, .ref t9, .ref n9, .int (nI tn), .int (nI he), .int (nI en), .int (nI ln), .int (zI iw), .int (zI dg)])), (t9, .inl (cy 0, 60, .inl tx))] (some (.int (nI (tn + 1)))) [(x9, .inr (10, [.int 0, .int (nI ch), .int era, .int why, .int det, .int cau, .int (zI sv), .int (zI rj), .ref v9, .ref b9, .ref s9, .ref k9, .ref p9, .ref t9, .ref n9, .int (nI (tn + 1)), .int (nI he), .int (nI en), .int (nI ln), .int (zI iw), .int (zI dg)])), (t9, .inl (cy 0, 60, .inl (upd tx tn xq)))] := by
  refine zM_of (cc := cX6_appendInput) (maxL := 2) (ret := (some .int)) (by decide) rfl (Nat.le_of_ble_eq_true rfl) ?_
  intro p e s m below meth c A Q hend hx hb hml hr hts hown hlk hG hK hP hD hA hS ls hl
  have hown : s.vm.findClass RX6 = some m.cls := hown
  have in_RX6 : ∀ w ∈ u_ws RX6 TX6 21, w ∈ wsX6_appendInput := by decide +kernel
  have hl : lv_has ls 2 [(0, .ref x9), (1, .int xq)] := hl
  refine lv_aload_n hx hb dX6_appendInput_0 rfl (lv_at hl 0 rfl) ?_
  refine lv_iload_n hx hb dX6_appendInput_1 rfl (lv_at hl 1 rfl) ?_
  refine lv_bipush (v := 32) hx hb dX6_appendInput_2 (by decide) ?_
  refine lv_bipush (v := 126) hx hb dX6_appendInput_4 (by decide) ?_
  refine zcS (As := [.int xq, .int 32, .int 126]) (rest := [.ref x9]) [] hg.1 ⟨hx, hb, hml, hown, hts⟩ (c_X6_isIn hg l D cy xq 32 126) (va_cwS 3 hts gX6_appendInput_X6_isIn rfl rfl rfl (by decide +kernel) ⟨Nat.le_of_ble_eq_true rfl, Nat.le_of_ble_eq_true rfl⟩) hG hK hP hD hS hA rfl rfl rfl  rfl hl.1 rfl (Nat.le_of_ble_eq_true rfl) dX6_appendInput_6 ⟨Nat.zero_le _, Nat.zero_le _⟩ (fun H locs hP hD hS => ?_)
  have hP : va_P D vwCl [(x9, .inr (10, [.int th, .int (nI ch), .int era, .int why, .int det, .int cau, .int (zI sv), .int (zI rj), .ref v9, .ref b9, .ref s9, .ref k9, .ref p9, .ref t9, .ref n9, .int (nI tn), .int (nI he), .int (nI en), .int (nI ln), .int (zI iw), .int (zI dg)])), (t9, .inl (cy 0, 60, .inl tx))] H := hP
  have hD : va_D A [(x9, .inr (10, [.int th, .int (nI ch), .int era, .int why, .int det, .int cau, .int (zI sv), .int (zI rj), .ref v9, .ref b9, .ref s9, .ref k9, .ref p9, .ref t9, .ref n9, .int (nI tn), .int (nI he), .int (nI en), .int (nI ln), .int (zI iw), .int (zI dg)])), (t9, .inl (cy 0, 60, .inl tx))] := hD
  refine lv_if_ne (tgt := 16) hx hb dX6_appendInput_9 (by decide) (fun c_1 => ?_) (fun c_1 => ?_)
  · replace c_1 := zI1 c_1
    refine lv_aload_n hx hb dX6_appendInput_16 rfl (lv_at hl 0 rfl) ?_
    refine va_get (D := D) (ci := 10) (v := .int (nI tn)) (C := RX6) (T := TX6) (N := 21) hx hb hts in_RX6 hown hK hP 0 rfl rfl 15 (by decide) (hts _ (List.mem_of_getElem? (i := 1) rfl)) (fun _ h9 => h9) rfl dX6_appendInput_17 ?_
    refine lv_bipush (v := 60) hx hb dX6_appendInput_20 (by decide) ?_
    refine lv_icmp_ne (tgt := 29) hx hb dX6_appendInput_22 (by decide) (fun c_2 => ?_) (fun c_2 => ?_)
    · refine lv_iconst (v := 0) hx hb dX6_appendInput_29 (by decide) ?_
      refine va_put (D := D) (ci := 10) (v := .int 0) (ty := .int) (C := RX6) (T := TX6) (N := 21) hx hb hts in_RX6 tyX6 tyX6_ok nmX6 hown hK hP hD hS 0 rfl rfl 0 (by decide) (hts _ (List.mem_of_getElem? (i := 2) rfl)) (fun _ h9 => h9) rfl (by decide +kernel) rfl rfl (Nat.le_of_ble_eq_true rfl) dX6_appendInput_30 (fun H locs hP hD hS => ?_)
      have hP : va_P D vwCl [(x9, .inr (10, [.int 0, .int (nI ch), .int era, .int why, .int det, .int cau, .int (zI sv), .int (zI rj), .ref v9, .ref b9, .ref s9, .ref k9, .ref p9, .ref t9, .ref n9, .int (nI tn), .int (nI he), .int (nI en), .int (nI ln), .int (zI iw), .int (zI dg)])), (t9, .inl (cy 0, 60, .inl tx))] H := hP
      have hD : va_D A [(x9, .inr (10, [.int 0, .int (nI ch), .int era, .int why, .int det, .int cau, .int (zI sv), .int (zI rj), .ref v9, .ref b9, .ref s9, .ref k9, .ref p9, .ref t9, .ref n9, .int (nI tn), .int (nI he), .int (nI en), .int (nI ln), .int (zI iw), .int (zI dg)])), (t9, .inl (cy 0, 60, .inl tx))] := hD
      refine lv_aload_n hx hb dX6_appendInput_33 rfl (lv_at hl 0 rfl) ?_
      refine va_get (D := D) (ci := 10) (v := .int 0) (C := RX6) (T := TX6) (N := 21) hx hb hts in_RX6 hown hK hP 0 rfl rfl 0 (by decide) (hts _ (List.mem_of_getElem? (i := 2) rfl)) (fun _ h9 => h9) rfl dX6_appendInput_34 ?_
      refine lv_if_eq (tgt := 42) hx hb dX6_appendInput_37 (by decide) (fun c_3 => ?_) (fun c_3 => ?_)
      · refine lv_aload_n hx hb dX6_appendInput_42 rfl (lv_at hl 0 rfl) ?_
        refine va_get (D := D) (ci := 10) (v := .ref t9) (C := RX6) (T := TX6) (N := 21) hx hb hts in_RX6 hown hK hP 0 rfl rfl 13 (by decide) (hts _ (List.mem_of_getElem? (i := 3) rfl)) (fun _ h9 => h9) rfl dX6_appendInput_43 ?_
        refine lv_aload_n hx hb dX6_appendInput_46 rfl (lv_at hl 0 rfl) ?_
        refine va_get (D := D) (ci := 10) (v := .int (nI tn)) (C := RX6) (T := TX6) (N := 21) hx hb hts in_RX6 hown hK hP 0 rfl rfl 15 (by decide) (hts _ (List.mem_of_getElem? (i := 1) rfl)) (fun _ h9 => h9) rfl dX6_appendInput_47 ?_
        refine lv_iload_n hx hb dX6_appendInput_50 rfl (lv_at hl 1 rfl) ?_
        refine ziast 1 0 tn hx hb hK hP hD hS rfl rfl (by omega) (z_lt rfl) dX6_appendInput_51 (fun H locs hP hD hS => ?_)
        have hP : va_P D vwCl [(x9, .inr (10, [.int 0, .int (nI ch), .int era, .int why, .int det, .int cau, .int (zI sv), .int (zI rj), .ref v9, .ref b9, .ref s9, .ref k9, .ref p9, .ref t9, .ref n9, .int (nI tn), .int (nI he), .int (nI en), .int (nI ln), .int (zI iw), .int (zI dg)])), (t9, .inl (cy 0, 60, .inl (upd tx tn xq)))] H := hP
        have hD : va_D A [(x9, .inr (10, [.int 0, .int (nI ch), .int era, .int why, .int det, .int cau, .int (zI sv), .int (zI rj), .ref v9, .ref b9, .ref s9, .ref k9, .ref p9, .ref t9, .ref n9, .int (nI tn), .int (nI he), .int (nI en), .int (nI ln), .int (zI iw), .int (zI dg)])), (t9, .inl (cy 0, 60, .inl (upd tx tn xq)))] := hD
        refine lv_aload_n hx hb dX6_appendInput_52 rfl (lv_at hl 0 rfl) ?_
        refine lv_dup hx hb dX6_appendInput_53 rfl ?_
        refine va_get (D := D) (ci := 10) (v := .int (nI tn)) (C := RX6) (T := TX6) (N := 21) hx hb hts in_RX6 hown hK hP 0 rfl rfl 15 (by decide) (hts _ (List.mem_of_getElem? (i := 1) rfl)) (fun _ h9 => h9) rfl dX6_appendInput_54 ?_
        refine lv_iconst (v := 1) hx hb dX6_appendInput_57 (by decide) ?_
        refine lv_iadd hx hb dX6_appendInput_58 ?_
        refine z_top (y := nI (tn + 1)) (nI_add tn 1) ?_
        refine va_put (D := D) (ci := 10) (v := .int (nI (tn + 1))) (ty := .int) (C := RX6) (T := TX6) (N := 21) hx hb hts in_RX6 tyX6 tyX6_ok nmX6 hown hK hP hD hS 0 rfl rfl 15 (by decide) (hts _ (List.mem_of_getElem? (i := 1) rfl)) (fun _ h9 => h9) rfl (by decide +kernel) rfl rfl (Nat.le_of_ble_eq_true rfl) dX6_appendInput_59 (fun H locs hP hD hS => ?_)
        have hP : va_P D vwCl [(x9, .inr (10, [.int 0, .int (nI ch), .int era, .int why, .int det, .int cau, .int (zI sv), .int (zI rj), .ref v9, .ref b9, .ref s9, .ref k9, .ref p9, .ref t9, .ref n9, .int (nI (tn + 1)), .int (nI he), .int (nI en), .int (nI ln), .int (zI iw), .int (zI dg)])), (t9, .inl (cy 0, 60, .inl (upd tx tn xq)))] H := hP
        have hD : va_D A [(x9, .inr (10, [.int 0, .int (nI ch), .int era, .int why, .int det, .int cau, .int (zI sv), .int (zI rj), .ref v9, .ref b9, .ref s9, .ref k9, .ref p9, .ref t9, .ref n9, .int (nI (tn + 1)), .int (nI he), .int (nI en), .int (nI ln), .int (zI iw), .int (zI dg)])), (t9, .inl (cy 0, 60, .inl (upd tx tn xq)))] := hD
        refine lv_aload_n hx hb dX6_appendInput_62 rfl (lv_at hl 0 rfl) ?_
        refine va_get (D := D) (ci := 10) (v := .int (nI (tn + 1))) (C := RX6) (T := TX6) (N := 21) hx hb hts in_RX6 hown hK hP 0 rfl rfl 15 (by decide) (hts _ (List.mem_of_getElem? (i := 1) rfl)) (fun _ h9 => h9) rfl dX6_appendInput_63 ?_
        exact ziret hend hx hb hr hlk hK hP hD hS dX6_appendInput_66 rfl rfl
      · exact absurd c_3 (by decide)
    · exact absurd ((nI_eq (a := tn) (b := 60) (by omega) (by omega)).mp c_2) (by omega)
  · replace c_1 := zI0 c_1
    exact absurd (hq.symm.trans c_1) (by decide)

abbrev rmX6_appendInput_bad : Room := { frames := 1, cells := 0, slots := 0, locals := 22 }
set_option maxHeartbeats 4000000 in
set_option maxRecDepth 100000 in
theorem c_X6_appendInput_bad {G : zG} (hg : zGN G) (l : Launch) (D : va_G) (cy : Nat → ClassId) (x9 : Nat) (th : Int32) (ch : Nat) (era : Int32) (why : Int32) (det : Int32) (cau : Int32) (sv : Bool) (rj : Bool) (v9 : Nat) (b9 : Nat) (s9 : Nat) (k9 : Nat) (p9 : Nat) (t9 : Nat) (n9 : Nat) (tn : Nat) (he : Nat) (en : Nat) (ln : Nat) (iw : Bool) (dg : Bool) (xq : Int32) (hq : zic 32 126 xq = false) : zM G D vwCl (zT cy) l yX6_appendInput wsX6_appendInput rmX6_appendInput_bad [.ref x9, .int xq] [(x9, .inr (10, [.int th, .int (nI ch), .int era, .int why, .int det, .int cau, .int (zI sv), .int (zI rj), .ref v9, .ref b9, .ref s9, .ref k9, .ref p9, .ref t9, .ref n9, .int (nI tn), .int (nI he), .int (nI en), .int (nI ln), .int (zI iw), .int (zI dg)]))] (some (.int 0)) [(x9, .inr (10, [.int 1, .int (nI ch), .int era, .int why, .int det, .int cau, .int (zI sv), .int (zI rj), .ref v9, .ref b9, .ref s9, .ref k9, .ref p9, .ref t9, .ref n9, .int (nI tn), .int (nI he), .int (nI en), .int (nI ln), .int (zI iw), .int (zI dg)]))] := by
  refine zM_of (cc := cX6_appendInput) (maxL := 2) (ret := (some .int)) (by decide) rfl (Nat.le_of_ble_eq_true rfl) ?_
  intro p e s m below meth c A Q hend hx hb hml hr hts hown hlk hG hK hP hD hA hS ls hl
  have hown : s.vm.findClass RX6 = some m.cls := hown
  have in_RX6 : ∀ w ∈ u_ws RX6 TX6 21, w ∈ wsX6_appendInput := by decide +kernel
  have hl : lv_has ls 2 [(0, .ref x9), (1, .int xq)] := hl
  refine lv_aload_n hx hb dX6_appendInput_0 rfl (lv_at hl 0 rfl) ?_
  refine lv_iload_n hx hb dX6_appendInput_1 rfl (lv_at hl 1 rfl) ?_
  refine lv_bipush (v := 32) hx hb dX6_appendInput_2 (by decide) ?_
  refine lv_bipush (v := 126) hx hb dX6_appendInput_4 (by decide) ?_
  refine zcS (As := [.int xq, .int 32, .int 126]) (rest := [.ref x9]) [] hg.1 ⟨hx, hb, hml, hown, hts⟩ (c_X6_isIn hg l D cy xq 32 126) (va_cwS 3 hts gX6_appendInput_X6_isIn rfl rfl rfl (by decide +kernel) ⟨Nat.le_of_ble_eq_true rfl, Nat.le_of_ble_eq_true rfl⟩) hG hK hP hD hS hA rfl rfl rfl  rfl hl.1 rfl (Nat.le_of_ble_eq_true rfl) dX6_appendInput_6 ⟨Nat.zero_le _, Nat.zero_le _⟩ (fun H locs hP hD hS => ?_)
  have hP : va_P D vwCl [(x9, .inr (10, [.int th, .int (nI ch), .int era, .int why, .int det, .int cau, .int (zI sv), .int (zI rj), .ref v9, .ref b9, .ref s9, .ref k9, .ref p9, .ref t9, .ref n9, .int (nI tn), .int (nI he), .int (nI en), .int (nI ln), .int (zI iw), .int (zI dg)]))] H := hP
  have hD : va_D A [(x9, .inr (10, [.int th, .int (nI ch), .int era, .int why, .int det, .int cau, .int (zI sv), .int (zI rj), .ref v9, .ref b9, .ref s9, .ref k9, .ref p9, .ref t9, .ref n9, .int (nI tn), .int (nI he), .int (nI en), .int (nI ln), .int (zI iw), .int (zI dg)]))] := hD
  refine lv_if_ne (tgt := 16) hx hb dX6_appendInput_9 (by decide) (fun c_1 => ?_) (fun c_1 => ?_)
  · replace c_1 := zI1 c_1
    exact absurd (hq.symm.trans c_1) (by decide)
  · replace c_1 := zI0 c_1
    refine lv_iconst (v := 1) hx hb dX6_appendInput_12 (by decide) ?_
    refine lv_goto (tgt := 30) hx hb dX6_appendInput_13 (by decide) ?_
    refine va_put (D := D) (ci := 10) (v := .int 1) (ty := .int) (C := RX6) (T := TX6) (N := 21) hx hb hts in_RX6 tyX6 tyX6_ok nmX6 hown hK hP hD hS 0 rfl rfl 0 (by decide) (hts _ (List.mem_of_getElem? (i := 2) rfl)) (fun _ h9 => h9) rfl (by decide +kernel) rfl rfl (Nat.le_of_ble_eq_true rfl) dX6_appendInput_30 (fun H locs hP hD hS => ?_)
    have hP : va_P D vwCl [(x9, .inr (10, [.int 1, .int (nI ch), .int era, .int why, .int det, .int cau, .int (zI sv), .int (zI rj), .ref v9, .ref b9, .ref s9, .ref k9, .ref p9, .ref t9, .ref n9, .int (nI tn), .int (nI he), .int (nI en), .int (nI ln), .int (zI iw), .int (zI dg)]))] H := hP
    have hD : va_D A [(x9, .inr (10, [.int 1, .int (nI ch), .int era, .int why, .int det, .int cau, .int (zI sv), .int (zI rj), .ref v9, .ref b9, .ref s9, .ref k9, .ref p9, .ref t9, .ref n9, .int (nI tn), .int (nI he), .int (nI en), .int (nI ln), .int (zI iw), .int (zI dg)]))] := hD
    refine lv_aload_n hx hb dX6_appendInput_33 rfl (lv_at hl 0 rfl) ?_
    refine va_get (D := D) (ci := 10) (v := .int 1) (C := RX6) (T := TX6) (N := 21) hx hb hts in_RX6 hown hK hP 0 rfl rfl 0 (by decide) (hts _ (List.mem_of_getElem? (i := 2) rfl)) (fun _ h9 => h9) rfl dX6_appendInput_34 ?_
    refine lv_if_eq (tgt := 42) hx hb dX6_appendInput_37 (by decide) (fun c_2 => ?_) (fun c_2 => ?_)
    · exact absurd c_2 (by decide)
    · refine lv_iconst (v := 0) hx hb dX6_appendInput_40 (by decide) ?_
      exact ziret hend hx hb hr hlk hK hP hD hS dX6_appendInput_41 rfl rfl

abbrev rmX6_appendInput_bad2 : Room := { frames := 1, cells := 0, slots := 0, locals := 22 }
set_option maxHeartbeats 4000000 in
set_option maxRecDepth 100000 in
theorem c_X6_appendInput_bad2 {G : zG} (hg : zGN G) (l : Launch) (D : va_G) (cy : Nat → ClassId) (x9 : Nat) (th : Int32) (ch : Nat) (era : Int32) (why : Int32) (det : Int32) (cau : Int32) (sv : Bool) (rj : Bool) (v9 : Nat) (b9 : Nat) (s9 : Nat) (k9 : Nat) (p9 : Nat) (t9 : Nat) (n9 : Nat) (he : Nat) (en : Nat) (ln : Nat) (iw : Bool) (dg : Bool) (xq : Int32) (hq : zic 32 126 xq = true) : zM G D vwCl (zT cy) l yX6_appendInput wsX6_appendInput rmX6_appendInput_bad2 [.ref x9, .int xq] [(x9, .inr (10, [.int th, .int (nI ch), .int era, .int why, .int det, .int cau, .int (zI sv), .int (zI rj), .ref v9, .ref b9, .ref s9, .ref k9, .ref p9, .ref t9, .ref n9, .int (nI 60), .int (nI he), .int (nI en), .int (nI ln), .int (zI iw), .int (zI dg)]))] (some (.int 0)) [(x9, .inr (10, [.int 2, .int (nI ch), .int era, .int why, .int det, .int cau, .int (zI sv), .int (zI rj), .ref v9, .ref b9, .ref s9, .ref k9, .ref p9, .ref t9, .ref n9, .int (nI 60), .int (nI he), .int (nI en), .int (nI ln), .int (zI iw), .int (zI dg)]))] := by
  refine zM_of (cc := cX6_appendInput) (maxL := 2) (ret := (some .int)) (by decide) rfl (Nat.le_of_ble_eq_true rfl) ?_
  intro p e s m below meth c A Q hend hx hb hml hr hts hown hlk hG hK hP hD hA hS ls hl
  have hown : s.vm.findClass RX6 = some m.cls := hown
  have in_RX6 : ∀ w ∈ u_ws RX6 TX6 21, w ∈ wsX6_appendInput := by decide +kernel
  have hl : lv_has ls 2 [(0, .ref x9), (1, .int xq)] := hl
  refine lv_aload_n hx hb dX6_appendInput_0 rfl (lv_at hl 0 rfl) ?_
  refine lv_iload_n hx hb dX6_appendInput_1 rfl (lv_at hl 1 rfl) ?_
  refine lv_bipush (v := 32) hx hb dX6_appendInput_2 (by decide) ?_
  refine lv_bipush (v := 126) hx hb dX6_appendInput_4 (by decide) ?_
  refine zcS (As := [.int xq, .int 32, .int 126]) (rest := [.ref x9]) [] hg.1 ⟨hx, hb, hml, hown, hts⟩ (c_X6_isIn hg l D cy xq 32 126) (va_cwS 3 hts gX6_appendInput_X6_isIn rfl rfl rfl (by decide +kernel) ⟨Nat.le_of_ble_eq_true rfl, Nat.le_of_ble_eq_true rfl⟩) hG hK hP hD hS hA rfl rfl rfl  rfl hl.1 rfl (Nat.le_of_ble_eq_true rfl) dX6_appendInput_6 ⟨Nat.zero_le _, Nat.zero_le _⟩ (fun H locs hP hD hS => ?_)
  have hP : va_P D vwCl [(x9, .inr (10, [.int th, .int (nI ch), .int era, .int why, .int det, .int cau, .int (zI sv), .int (zI rj), .ref v9, .ref b9, .ref s9, .ref k9, .ref p9, .ref t9, .ref n9, .int (nI 60), .int (nI he), .int (nI en), .int (nI ln), .int (zI iw), .int (zI dg)]))] H := hP
  have hD : va_D A [(x9, .inr (10, [.int th, .int (nI ch), .int era, .int why, .int det, .int cau, .int (zI sv), .int (zI rj), .ref v9, .ref b9, .ref s9, .ref k9, .ref p9, .ref t9, .ref n9, .int (nI 60), .int (nI he), .int (nI en), .int (nI ln), .int (zI iw), .int (zI dg)]))] := hD
  refine lv_if_ne (tgt := 16) hx hb dX6_appendInput_9 (by decide) (fun c_1 => ?_) (fun c_1 => ?_)
  · replace c_1 := zI1 c_1
    refine lv_aload_n hx hb dX6_appendInput_16 rfl (lv_at hl 0 rfl) ?_
    refine va_get (D := D) (ci := 10) (v := .int (nI 60)) (C := RX6) (T := TX6) (N := 21) hx hb hts in_RX6 hown hK hP 0 rfl rfl 15 (by decide) (hts _ (List.mem_of_getElem? (i := 1) rfl)) (fun _ h9 => h9) rfl dX6_appendInput_17 ?_
    refine lv_bipush (v := 60) hx hb dX6_appendInput_20 (by decide) ?_
    refine lv_icmp_ne (tgt := 29) hx hb dX6_appendInput_22 (by decide) (fun c_2 => ?_) (fun c_2 => ?_)
    · exact absurd rfl c_2
    · refine lv_iconst (v := 2) hx hb dX6_appendInput_25 (by decide) ?_
      refine lv_goto (tgt := 30) hx hb dX6_appendInput_26 (by decide) ?_
      refine va_put (D := D) (ci := 10) (v := .int 2) (ty := .int) (C := RX6) (T := TX6) (N := 21) hx hb hts in_RX6 tyX6 tyX6_ok nmX6 hown hK hP hD hS 0 rfl rfl 0 (by decide) (hts _ (List.mem_of_getElem? (i := 2) rfl)) (fun _ h9 => h9) rfl (by decide +kernel) rfl rfl (Nat.le_of_ble_eq_true rfl) dX6_appendInput_30 (fun H locs hP hD hS => ?_)
      have hP : va_P D vwCl [(x9, .inr (10, [.int 2, .int (nI ch), .int era, .int why, .int det, .int cau, .int (zI sv), .int (zI rj), .ref v9, .ref b9, .ref s9, .ref k9, .ref p9, .ref t9, .ref n9, .int (nI 60), .int (nI he), .int (nI en), .int (nI ln), .int (zI iw), .int (zI dg)]))] H := hP
      have hD : va_D A [(x9, .inr (10, [.int 2, .int (nI ch), .int era, .int why, .int det, .int cau, .int (zI sv), .int (zI rj), .ref v9, .ref b9, .ref s9, .ref k9, .ref p9, .ref t9, .ref n9, .int (nI 60), .int (nI he), .int (nI en), .int (nI ln), .int (zI iw), .int (zI dg)]))] := hD
      refine lv_aload_n hx hb dX6_appendInput_33 rfl (lv_at hl 0 rfl) ?_
      refine va_get (D := D) (ci := 10) (v := .int 2) (C := RX6) (T := TX6) (N := 21) hx hb hts in_RX6 hown hK hP 0 rfl rfl 0 (by decide) (hts _ (List.mem_of_getElem? (i := 2) rfl)) (fun _ h9 => h9) rfl dX6_appendInput_34 ?_
      refine lv_if_eq (tgt := 42) hx hb dX6_appendInput_37 (by decide) (fun c_3 => ?_) (fun c_3 => ?_)
      · exact absurd c_3 (by decide)
      · refine lv_iconst (v := 0) hx hb dX6_appendInput_40 (by decide) ?_
        exact ziret hend hx hb hr hlk hK hP hD hS dX6_appendInput_41 rfl rfl
  · replace c_1 := zI0 c_1
    exact absurd (hq.symm.trans c_1) (by decide)
