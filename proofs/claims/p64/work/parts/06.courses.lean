def zcb (cw cd : Nat → Int32) (i j : Nat) : Bool := if cw i = cw j then (if cd i = cd j then !decide (nI j ≤ nI i) else !decide (cd j ≤ cd i)) else !decide (cw i ≤ cw j)
def zps (cw cd : Nat → Int32) (i : Nat) : Nat → Int32
  | 0 => 0
  | o + 1 => if zcb cw cd o i = true then zps cw cd i o + 1 else zps cw cd i o
abbrev rmX2_copyFrom : Room := { frames := 1, cells := 0, slots := 0, locals := 60 }
set_option maxHeartbeats 4000000 in
set_option maxRecDepth 100000 in
theorem c_X2_copyFrom {G : zG} (hg : zGN G) (l : Launch) (D : va_G) (cy : Nat → ClassId) (k0 : Nat) (w0 : Nat) (y0 : Nat) (f0 : Nat) (d0 : Nat) (cw : Nat → Int32) (cyn : Nat → Int32) (cf : Nat → Int32) (cd : Nat → Int32) (cn : Nat) (k1 : Nat) (w1 : Nat) (y1 : Nat) (f1 : Nat) (d1 : Nat) (cw1 : Nat → Int32) (cyn1 : Nat → Int32) (cf1 : Nat → Int32) (cd1 : Nat → Int32) (cn1 : Nat) : zM G D vwCl (zT cy) l yX2_copyFrom wsX2_copyFrom rmX2_copyFrom [.ref k0, .ref k1] [(k0, .inr (6, [.ref w0, .ref y0, .ref f0, .ref d0, .int (nI cn)])), (w0, .inl (cy 0, 30, .inl cw)), (y0, .inl (cy 0, 30, .inl cyn)), (f0, .inl (cy 0, 30, .inl cf)), (d0, .inl (cy 0, 30, .inl cd)), (k1, .inr (6, [.ref w1, .ref y1, .ref f1, .ref d1, .int (nI cn1)])), (w1, .inl (cy 0, 30, .inl cw1)), (y1, .inl (cy 0, 30, .inl cyn1)), (f1, .inl (cy 0, 30, .inl cf1)), (d1, .inl (cy 0, 30, .inl cd1))] none [(k0, .inr (6, [.ref w0, .ref y0, .ref f0, .ref d0, .int (nI cn1)])), (w0, .inl (cy 0, 30, .inl cw1)), (y0, .inl (cy 0, 30, .inl cyn1)), (f0, .inl (cy 0, 30, .inl cf1)), (d0, .inl (cy 0, 30, .inl cd1)), (k1, .inr (6, [.ref w1, .ref y1, .ref f1, .ref d1, .int (nI cn1)])), (w1, .inl (cy 0, 30, .inl cw1)), (y1, .inl (cy 0, 30, .inl cyn1)), (f1, .inl (cy 0, 30, .inl cf1)), (d1, .inl (cy 0, 30, .inl cd1))] := by
  refine zM_of (cc := cX2_copyFrom) (maxL := 2) (ret := none) (by decide) rfl (Nat.le_of_ble_eq_true rfl) ?_
  intro p e s m below meth c A Q hend hx hb hml hr hts hown hlk hG hK hP hD hA hS ls hl
  have hown : s.vm.findClass RX2 = some m.cls := hown
  have in_RX2 : ∀ w ∈ u_ws RX2 TX2 5, w ∈ wsX2_copyFrom := by decide +kernel
  have hl : lv_has ls 2 [(0, .ref k0), (1, .ref k1)] := hl
  refine lv_aload_n hx hb dX2_copyFrom_0 rfl (lv_at hl 1 rfl) ?_
  refine va_get (D := D) (ci := 6) (v := .ref w1) (C := RX2) (T := TX2) (N := 5) hx hb hts in_RX2 hown hK hP 5 rfl rfl 0 (by decide) (hts _ (List.mem_of_getElem? (i := 1) rfl)) (fun _ h9 => h9) rfl dX2_copyFrom_1 ?_
  refine lv_iconst (v := 0) hx hb dX2_copyFrom_4 (by decide) ?_
  refine lv_aload_n hx hb dX2_copyFrom_5 rfl (lv_at hl 0 rfl) ?_
  refine va_get (D := D) (ci := 6) (v := .ref w0) (C := RX2) (T := TX2) (N := 5) hx hb hts in_RX2 hown hK hP 0 rfl rfl 0 (by decide) (hts _ (List.mem_of_getElem? (i := 1) rfl)) (fun _ h9 => h9) rfl dX2_copyFrom_6 ?_
  refine lv_iconst (v := 0) hx hb dX2_copyFrom_9 (by decide) ?_
  refine lv_bipush (v := 30) hx hb dX2_copyFrom_10 (by decide) ?_
  refine zcopy 6 1 30 hx hb (hml.trans hl.1.symm) hown (hts _ (List.mem_of_getElem? (i := 2) rfl)) (hts _ (List.mem_of_getElem? (i := 3) rfl)) (hts _ (List.mem_of_getElem? (i := 4) rfl)) (hts _ (List.mem_of_getElem? (i := 5) rfl)) hK hP hD hS rfl rfl rfl (by decide) (by decide) (Nat.le_of_ble_eq_true rfl) (Nat.le_of_ble_eq_true rfl) dX2_copyFrom_12 (fun H locs hP hD hS => ?_)
  have hP : va_P D vwCl [(k0, .inr (6, [.ref w0, .ref y0, .ref f0, .ref d0, .int (nI cn)])), (w0, .inl (cy 0, 30, .inl cw1)), (y0, .inl (cy 0, 30, .inl cyn)), (f0, .inl (cy 0, 30, .inl cf)), (d0, .inl (cy 0, 30, .inl cd)), (k1, .inr (6, [.ref w1, .ref y1, .ref f1, .ref d1, .int (nI cn1)])), (w1, .inl (cy 0, 30, .inl cw1)), (y1, .inl (cy 0, 30, .inl cyn1)), (f1, .inl (cy 0, 30, .inl cf1)), (d1, .inl (cy 0, 30, .inl cd1))] H := hP
  have hD : va_D A [(k0, .inr (6, [.ref w0, .ref y0, .ref f0, .ref d0, .int (nI cn)])), (w0, .inl (cy 0, 30, .inl cw1)), (y0, .inl (cy 0, 30, .inl cyn)), (f0, .inl (cy 0, 30, .inl cf)), (d0, .inl (cy 0, 30, .inl cd)), (k1, .inr (6, [.ref w1, .ref y1, .ref f1, .ref d1, .int (nI cn1)])), (w1, .inl (cy 0, 30, .inl cw1)), (y1, .inl (cy 0, 30, .inl cyn1)), (f1, .inl (cy 0, 30, .inl cf1)), (d1, .inl (cy 0, 30, .inl cd1))] := hD
  refine lv_aload_n hx hb dX2_copyFrom_15 rfl (lv_at hl 1 rfl) ?_
  refine va_get (D := D) (ci := 6) (v := .ref y1) (C := RX2) (T := TX2) (N := 5) hx hb hts in_RX2 hown hK hP 5 rfl rfl 1 (by decide) (hts _ (List.mem_of_getElem? (i := 6) rfl)) (fun _ h9 => h9) rfl dX2_copyFrom_16 ?_
  refine lv_iconst (v := 0) hx hb dX2_copyFrom_19 (by decide) ?_
  refine lv_aload_n hx hb dX2_copyFrom_20 rfl (lv_at hl 0 rfl) ?_
  refine va_get (D := D) (ci := 6) (v := .ref y0) (C := RX2) (T := TX2) (N := 5) hx hb hts in_RX2 hown hK hP 0 rfl rfl 1 (by decide) (hts _ (List.mem_of_getElem? (i := 6) rfl)) (fun _ h9 => h9) rfl dX2_copyFrom_21 ?_
  refine lv_iconst (v := 0) hx hb dX2_copyFrom_24 (by decide) ?_
  refine lv_bipush (v := 30) hx hb dX2_copyFrom_25 (by decide) ?_
  refine zcopy 7 2 30 hx hb (hml.trans hl.1.symm) hown (hts _ (List.mem_of_getElem? (i := 2) rfl)) (hts _ (List.mem_of_getElem? (i := 3) rfl)) (hts _ (List.mem_of_getElem? (i := 4) rfl)) (hts _ (List.mem_of_getElem? (i := 5) rfl)) hK hP hD hS rfl rfl rfl (by decide) (by decide) (Nat.le_of_ble_eq_true rfl) (Nat.le_of_ble_eq_true rfl) dX2_copyFrom_27 (fun H locs hP hD hS => ?_)
  have hP : va_P D vwCl [(k0, .inr (6, [.ref w0, .ref y0, .ref f0, .ref d0, .int (nI cn)])), (w0, .inl (cy 0, 30, .inl cw1)), (y0, .inl (cy 0, 30, .inl cyn1)), (f0, .inl (cy 0, 30, .inl cf)), (d0, .inl (cy 0, 30, .inl cd)), (k1, .inr (6, [.ref w1, .ref y1, .ref f1, .ref d1, .int (nI cn1)])), (w1, .inl (cy 0, 30, .inl cw1)), (y1, .inl (cy 0, 30, .inl cyn1)), (f1, .inl (cy 0, 30, .inl cf1)), (d1, .inl (cy 0, 30, .inl cd1))] H := hP
  have hD : va_D A [(k0, .inr (6, [.ref w0, .ref y0, .ref f0, .ref d0, .int (nI cn)])), (w0, .inl (cy 0, 30, .inl cw1)), (y0, .inl (cy 0, 30, .inl cyn1)), (f0, .inl (cy 0, 30, .inl cf)), (d0, .inl (cy 0, 30, .inl cd)), (k1, .inr (6, [.ref w1, .ref y1, .ref f1, .ref d1, .int (nI cn1)])), (w1, .inl (cy 0, 30, .inl cw1)), (y1, .inl (cy 0, 30, .inl cyn1)), (f1, .inl (cy 0, 30, .inl cf1)), (d1, .inl (cy 0, 30, .inl cd1))] := hD
  refine lv_aload_n hx hb dX2_copyFrom_30 rfl (lv_at hl 1 rfl) ?_
  refine va_get (D := D) (ci := 6) (v := .ref f1) (C := RX2) (T := TX2) (N := 5) hx hb hts in_RX2 hown hK hP 5 rfl rfl 2 (by decide) (hts _ (List.mem_of_getElem? (i := 7) rfl)) (fun _ h9 => h9) rfl dX2_copyFrom_31 ?_
  refine lv_iconst (v := 0) hx hb dX2_copyFrom_34 (by decide) ?_
  refine lv_aload_n hx hb dX2_copyFrom_35 rfl (lv_at hl 0 rfl) ?_
  refine va_get (D := D) (ci := 6) (v := .ref f0) (C := RX2) (T := TX2) (N := 5) hx hb hts in_RX2 hown hK hP 0 rfl rfl 2 (by decide) (hts _ (List.mem_of_getElem? (i := 7) rfl)) (fun _ h9 => h9) rfl dX2_copyFrom_36 ?_
  refine lv_iconst (v := 0) hx hb dX2_copyFrom_39 (by decide) ?_
  refine lv_bipush (v := 30) hx hb dX2_copyFrom_40 (by decide) ?_
  refine zcopy 8 3 30 hx hb (hml.trans hl.1.symm) hown (hts _ (List.mem_of_getElem? (i := 2) rfl)) (hts _ (List.mem_of_getElem? (i := 3) rfl)) (hts _ (List.mem_of_getElem? (i := 4) rfl)) (hts _ (List.mem_of_getElem? (i := 5) rfl)) hK hP hD hS rfl rfl rfl (by decide) (by decide) (Nat.le_of_ble_eq_true rfl) (Nat.le_of_ble_eq_true rfl) dX2_copyFrom_42 (fun H locs hP hD hS => ?_)
  have hP : va_P D vwCl [(k0, .inr (6, [.ref w0, .ref y0, .ref f0, .ref d0, .int (nI cn)])), (w0, .inl (cy 0, 30, .inl cw1)), (y0, .inl (cy 0, 30, .inl cyn1)), (f0, .inl (cy 0, 30, .inl cf1)), (d0, .inl (cy 0, 30, .inl cd)), (k1, .inr (6, [.ref w1, .ref y1, .ref f1, .ref d1, .int (nI cn1)])), (w1, .inl (cy 0, 30, .inl cw1)), (y1, .inl (cy 0, 30, .inl cyn1)), (f1, .inl (cy 0, 30, .inl cf1)), (d1, .inl (cy 0, 30, .inl cd1))] H := hP
  have hD : va_D A [(k0, .inr (6, [.ref w0, .ref y0, .ref f0, .ref d0, .int (nI cn)])), (w0, .inl (cy 0, 30, .inl cw1)), (y0, .inl (cy 0, 30, .inl cyn1)), (f0, .inl (cy 0, 30, .inl cf1)), (d0, .inl (cy 0, 30, .inl cd)), (k1, .inr (6, [.ref w1, .ref y1, .ref f1, .ref d1, .int (nI cn1)])), (w1, .inl (cy 0, 30, .inl cw1)), (y1, .inl (cy 0, 30, .inl cyn1)), (f1, .inl (cy 0, 30, .inl cf1)), (d1, .inl (cy 0, 30, .inl cd1))] := hD
  refine lv_aload_n hx hb dX2_copyFrom_45 rfl (lv_at hl 1 rfl) ?_
  refine va_get (D := D) (ci := 6) (v := .ref d1) (C := RX2) (T := TX2) (N := 5) hx hb hts in_RX2 hown hK hP 5 rfl rfl 3 (by decide) (hts _ (List.mem_of_getElem? (i := 8) rfl)) (fun _ h9 => h9) rfl dX2_copyFrom_46 ?_
  refine lv_iconst (v := 0) hx hb dX2_copyFrom_49 (by decide) ?_
  refine lv_aload_n hx hb dX2_copyFrom_50 rfl (lv_at hl 0 rfl) ?_
  refine va_get (D := D) (ci := 6) (v := .ref d0) (C := RX2) (T := TX2) (N := 5) hx hb hts in_RX2 hown hK hP 0 rfl rfl 3 (by decide) (hts _ (List.mem_of_getElem? (i := 8) rfl)) (fun _ h9 => h9) rfl dX2_copyFrom_51 ?_
  refine lv_iconst (v := 0) hx hb dX2_copyFrom_54 (by decide) ?_
  refine lv_bipush (v := 30) hx hb dX2_copyFrom_55 (by decide) ?_
  refine zcopy 9 4 30 hx hb (hml.trans hl.1.symm) hown (hts _ (List.mem_of_getElem? (i := 2) rfl)) (hts _ (List.mem_of_getElem? (i := 3) rfl)) (hts _ (List.mem_of_getElem? (i := 4) rfl)) (hts _ (List.mem_of_getElem? (i := 5) rfl)) hK hP hD hS rfl rfl rfl (by decide) (by decide) (Nat.le_of_ble_eq_true rfl) (Nat.le_of_ble_eq_true rfl) dX2_copyFrom_57 (fun H locs hP hD hS => ?_)
  have hP : va_P D vwCl [(k0, .inr (6, [.ref w0, .ref y0, .ref f0, .ref d0, .int (nI cn)])), (w0, .inl (cy 0, 30, .inl cw1)), (y0, .inl (cy 0, 30, .inl cyn1)), (f0, .inl (cy 0, 30, .inl cf1)), (d0, .inl (cy 0, 30, .inl cd1)), (k1, .inr (6, [.ref w1, .ref y1, .ref f1, .ref d1, .int (nI cn1)])), (w1, .inl (cy 0, 30, .inl cw1)), (y1, .inl (cy 0, 30, .inl cyn1)), (f1, .inl (cy 0, 30, .inl cf1)), (d1, .inl (cy 0, 30, .inl cd1))] H := hP
  have hD : va_D A [(k0, .inr (6, [.ref w0, .ref y0, .ref f0, .ref d0, .int (nI cn)])), (w0, .inl (cy 0, 30, .inl cw1)), (y0, .inl (cy 0, 30, .inl cyn1)), (f0, .inl (cy 0, 30, .inl cf1)), (d0, .inl (cy 0, 30, .inl cd1)), (k1, .inr (6, [.ref w1, .ref y1, .ref f1, .ref d1, .int (nI cn1)])), (w1, .inl (cy 0, 30, .inl cw1)), (y1, .inl (cy 0, 30, .inl cyn1)), (f1, .inl (cy 0, 30, .inl cf1)), (d1, .inl (cy 0, 30, .inl cd1))] := hD
  refine lv_aload_n hx hb dX2_copyFrom_60 rfl (lv_at hl 0 rfl) ?_
  refine lv_aload_n hx hb dX2_copyFrom_61 rfl (lv_at hl 1 rfl) ?_
  refine va_get (D := D) (ci := 6) (v := .int (nI cn1)) (C := RX2) (T := TX2) (N := 5) hx hb hts in_RX2 hown hK hP 5 rfl rfl 4 (by decide) (hts _ (List.mem_of_getElem? (i := 9) rfl)) (fun _ h9 => h9) rfl dX2_copyFrom_62 ?_
  refine va_put (D := D) (ci := 6) (v := .int (nI cn1)) (ty := .int) (C := RX2) (T := TX2) (N := 5) hx hb hts in_RX2 tyX2 tyX2_ok nmX2 hown hK hP hD hS 0 rfl rfl 4 (by decide) (hts _ (List.mem_of_getElem? (i := 9) rfl)) (fun _ h9 => h9) rfl (by decide +kernel) rfl rfl (Nat.le_of_ble_eq_true rfl) dX2_copyFrom_65 (fun H locs hP hD hS => ?_)
  have hP : va_P D vwCl [(k0, .inr (6, [.ref w0, .ref y0, .ref f0, .ref d0, .int (nI cn1)])), (w0, .inl (cy 0, 30, .inl cw1)), (y0, .inl (cy 0, 30, .inl cyn1)), (f0, .inl (cy 0, 30, .inl cf1)), (d0, .inl (cy 0, 30, .inl cd1)), (k1, .inr (6, [.ref w1, .ref y1, .ref f1, .ref d1, .int (nI cn1)])), (w1, .inl (cy 0, 30, .inl cw1)), (y1, .inl (cy 0, 30, .inl cyn1)), (f1, .inl (cy 0, 30, .inl cf1)), (d1, .inl (cy 0, 30, .inl cd1))] H := hP
  have hD : va_D A [(k0, .inr (6, [.ref w0, .ref y0, .ref f0, .ref d0, .int (nI cn1)])), (w0, .inl (cy 0, 30, .inl cw1)), (y0, .inl (cy 0, 30, .inl cyn1)), (f0, .inl (cy 0, 30, .inl cf1)), (d0, .inl (cy 0, 30, .inl cd1)), (k1, .inr (6, [.ref w1, .ref y1, .ref f1, .ref d1, .int (nI cn1)])), (w1, .inl (cy 0, 30, .inl cw1)), (y1, .inl (cy 0, 30, .inl cyn1)), (f1, .inl (cy 0, 30, .inl cf1)), (d1, .inl (cy 0, 30, .inl cd1))] := hD
  exact zvret hend hx hb hr hlk hK hP hD hS dX2_copyFrom_68 rfl

abbrev rmX2_add : Room := { frames := 0, cells := 0, slots := 0, locals := 0 }
set_option maxHeartbeats 4000000 in
set_option maxRecDepth 100000 in
theorem c_X2_add {G : zG} (hg : zGN G) (l : Launch) (D : va_G) (cy : Nat → ClassId) (k0 : Nat) (w0 : Nat) (y0 : Nat) (f0 : Nat) (d0 : Nat) (cw : Nat → Int32) (cyn : Nat → Int32) (cf : Nat → Int32) (cd : Nat → Int32) (cn : Nat) (wd : Int32) (yu : Int32) (fe : Int32) (dr : Int32) (hcn : cn < 30) : zM G D vwCl (zT cy) l yX2_add wsX2_add rmX2_add [.ref k0, .int wd, .int yu, .int fe, .int dr] [(k0, .inr (6, [.ref w0, .ref y0, .ref f0, .ref d0, .int (nI cn)])), (w0, .inl (cy 0, 30, .inl cw)), (y0, .inl (cy 0, 30, .inl cyn)), (f0, .inl (cy 0, 30, .inl cf)), (d0, .inl (cy 0, 30, .inl cd))] none [(k0, .inr (6, [.ref w0, .ref y0, .ref f0, .ref d0, .int (nI (cn + 1))])), (w0, .inl (cy 0, 30, .inl (upd cw cn wd))), (y0, .inl (cy 0, 30, .inl (upd cyn cn yu))), (f0, .inl (cy 0, 30, .inl (upd cf cn fe))), (d0, .inl (cy 0, 30, .inl (upd cd cn dr)))] := by
  refine zM_of (cc := cX2_add) (maxL := 5) (ret := none) (by decide) rfl (Nat.le_of_ble_eq_true rfl) ?_
  intro p e s m below meth c A Q hend hx hb hml hr hts hown hlk hG hK hP hD hA hS ls hl
  have hown : s.vm.findClass RX2 = some m.cls := hown
  have in_RX2 : ∀ w ∈ u_ws RX2 TX2 5, w ∈ wsX2_add := by decide +kernel
  have hl : lv_has ls 5 [(0, .ref k0), (1, .int wd), (2, .int yu), (3, .int fe), (4, .int dr)] := hl
  refine lv_aload_n hx hb dX2_add_0 rfl (lv_at hl 0 rfl) ?_
  refine va_get (D := D) (ci := 6) (v := .int (nI cn)) (C := RX2) (T := TX2) (N := 5) hx hb hts in_RX2 hown hK hP 0 rfl rfl 4 (by decide) (hts _ (List.mem_of_getElem? (i := 1) rfl)) (fun _ h9 => h9) rfl dX2_add_1 ?_
  refine lv_bipush (v := 30) hx hb dX2_add_4 (by decide) ?_
  refine lv_icmp_lt (tgt := 10) hx hb dX2_add_6 (by decide) (fun c_1 => ?_) (fun c_1 => ?_)
  · refine lv_aload_n hx hb dX2_add_10 rfl (lv_at hl 0 rfl) ?_
    refine va_get (D := D) (ci := 6) (v := .ref w0) (C := RX2) (T := TX2) (N := 5) hx hb hts in_RX2 hown hK hP 0 rfl rfl 0 (by decide) (hts _ (List.mem_of_getElem? (i := 2) rfl)) (fun _ h9 => h9) rfl dX2_add_11 ?_
    refine lv_aload_n hx hb dX2_add_14 rfl (lv_at hl 0 rfl) ?_
    refine va_get (D := D) (ci := 6) (v := .int (nI cn)) (C := RX2) (T := TX2) (N := 5) hx hb hts in_RX2 hown hK hP 0 rfl rfl 4 (by decide) (hts _ (List.mem_of_getElem? (i := 1) rfl)) (fun _ h9 => h9) rfl dX2_add_15 ?_
    refine lv_iload_n hx hb dX2_add_18 rfl (lv_at hl 1 rfl) ?_
    refine ziast 1 0 cn hx hb hK hP hD hS rfl rfl (by omega) (z_lt rfl) dX2_add_19 (fun H locs hP hD hS => ?_)
    have hP : va_P D vwCl [(k0, .inr (6, [.ref w0, .ref y0, .ref f0, .ref d0, .int (nI cn)])), (w0, .inl (cy 0, 30, .inl (upd cw cn wd))), (y0, .inl (cy 0, 30, .inl cyn)), (f0, .inl (cy 0, 30, .inl cf)), (d0, .inl (cy 0, 30, .inl cd))] H := hP
    have hD : va_D A [(k0, .inr (6, [.ref w0, .ref y0, .ref f0, .ref d0, .int (nI cn)])), (w0, .inl (cy 0, 30, .inl (upd cw cn wd))), (y0, .inl (cy 0, 30, .inl cyn)), (f0, .inl (cy 0, 30, .inl cf)), (d0, .inl (cy 0, 30, .inl cd))] := hD
    refine lv_aload_n hx hb dX2_add_20 rfl (lv_at hl 0 rfl) ?_
    refine va_get (D := D) (ci := 6) (v := .ref y0) (C := RX2) (T := TX2) (N := 5) hx hb hts in_RX2 hown hK hP 0 rfl rfl 1 (by decide) (hts _ (List.mem_of_getElem? (i := 3) rfl)) (fun _ h9 => h9) rfl dX2_add_21 ?_
    refine lv_aload_n hx hb dX2_add_24 rfl (lv_at hl 0 rfl) ?_
    refine va_get (D := D) (ci := 6) (v := .int (nI cn)) (C := RX2) (T := TX2) (N := 5) hx hb hts in_RX2 hown hK hP 0 rfl rfl 4 (by decide) (hts _ (List.mem_of_getElem? (i := 1) rfl)) (fun _ h9 => h9) rfl dX2_add_25 ?_
    refine lv_iload_n hx hb dX2_add_28 rfl (lv_at hl 2 rfl) ?_
    refine ziast 2 0 cn hx hb hK hP hD hS rfl rfl (by omega) (z_lt rfl) dX2_add_29 (fun H locs hP hD hS => ?_)
    have hP : va_P D vwCl [(k0, .inr (6, [.ref w0, .ref y0, .ref f0, .ref d0, .int (nI cn)])), (w0, .inl (cy 0, 30, .inl (upd cw cn wd))), (y0, .inl (cy 0, 30, .inl (upd cyn cn yu))), (f0, .inl (cy 0, 30, .inl cf)), (d0, .inl (cy 0, 30, .inl cd))] H := hP
    have hD : va_D A [(k0, .inr (6, [.ref w0, .ref y0, .ref f0, .ref d0, .int (nI cn)])), (w0, .inl (cy 0, 30, .inl (upd cw cn wd))), (y0, .inl (cy 0, 30, .inl (upd cyn cn yu))), (f0, .inl (cy 0, 30, .inl cf)), (d0, .inl (cy 0, 30, .inl cd))] := hD
    refine lv_aload_n hx hb dX2_add_30 rfl (lv_at hl 0 rfl) ?_
    refine va_get (D := D) (ci := 6) (v := .ref f0) (C := RX2) (T := TX2) (N := 5) hx hb hts in_RX2 hown hK hP 0 rfl rfl 2 (by decide) (hts _ (List.mem_of_getElem? (i := 4) rfl)) (fun _ h9 => h9) rfl dX2_add_31 ?_
    refine lv_aload_n hx hb dX2_add_34 rfl (lv_at hl 0 rfl) ?_
    refine va_get (D := D) (ci := 6) (v := .int (nI cn)) (C := RX2) (T := TX2) (N := 5) hx hb hts in_RX2 hown hK hP 0 rfl rfl 4 (by decide) (hts _ (List.mem_of_getElem? (i := 1) rfl)) (fun _ h9 => h9) rfl dX2_add_35 ?_
    refine lv_iload_n hx hb dX2_add_38 rfl (lv_at hl 3 rfl) ?_
    refine ziast 3 0 cn hx hb hK hP hD hS rfl rfl (by omega) (z_lt rfl) dX2_add_39 (fun H locs hP hD hS => ?_)
    have hP : va_P D vwCl [(k0, .inr (6, [.ref w0, .ref y0, .ref f0, .ref d0, .int (nI cn)])), (w0, .inl (cy 0, 30, .inl (upd cw cn wd))), (y0, .inl (cy 0, 30, .inl (upd cyn cn yu))), (f0, .inl (cy 0, 30, .inl (upd cf cn fe))), (d0, .inl (cy 0, 30, .inl cd))] H := hP
    have hD : va_D A [(k0, .inr (6, [.ref w0, .ref y0, .ref f0, .ref d0, .int (nI cn)])), (w0, .inl (cy 0, 30, .inl (upd cw cn wd))), (y0, .inl (cy 0, 30, .inl (upd cyn cn yu))), (f0, .inl (cy 0, 30, .inl (upd cf cn fe))), (d0, .inl (cy 0, 30, .inl cd))] := hD
    refine lv_aload_n hx hb dX2_add_40 rfl (lv_at hl 0 rfl) ?_
    refine va_get (D := D) (ci := 6) (v := .ref d0) (C := RX2) (T := TX2) (N := 5) hx hb hts in_RX2 hown hK hP 0 rfl rfl 3 (by decide) (hts _ (List.mem_of_getElem? (i := 5) rfl)) (fun _ h9 => h9) rfl dX2_add_41 ?_
    refine lv_aload_n hx hb dX2_add_44 rfl (lv_at hl 0 rfl) ?_
    refine va_get (D := D) (ci := 6) (v := .int (nI cn)) (C := RX2) (T := TX2) (N := 5) hx hb hts in_RX2 hown hK hP 0 rfl rfl 4 (by decide) (hts _ (List.mem_of_getElem? (i := 1) rfl)) (fun _ h9 => h9) rfl dX2_add_45 ?_
    refine lv_iload hx hb dX2_add_48 (lv_at hl 4 rfl) ?_
    refine ziast 4 0 cn hx hb hK hP hD hS rfl rfl (by omega) (z_lt rfl) dX2_add_50 (fun H locs hP hD hS => ?_)
    have hP : va_P D vwCl [(k0, .inr (6, [.ref w0, .ref y0, .ref f0, .ref d0, .int (nI cn)])), (w0, .inl (cy 0, 30, .inl (upd cw cn wd))), (y0, .inl (cy 0, 30, .inl (upd cyn cn yu))), (f0, .inl (cy 0, 30, .inl (upd cf cn fe))), (d0, .inl (cy 0, 30, .inl (upd cd cn dr)))] H := hP
    have hD : va_D A [(k0, .inr (6, [.ref w0, .ref y0, .ref f0, .ref d0, .int (nI cn)])), (w0, .inl (cy 0, 30, .inl (upd cw cn wd))), (y0, .inl (cy 0, 30, .inl (upd cyn cn yu))), (f0, .inl (cy 0, 30, .inl (upd cf cn fe))), (d0, .inl (cy 0, 30, .inl (upd cd cn dr)))] := hD
    refine lv_aload_n hx hb dX2_add_51 rfl (lv_at hl 0 rfl) ?_
    refine lv_dup hx hb dX2_add_52 rfl ?_
    refine va_get (D := D) (ci := 6) (v := .int (nI cn)) (C := RX2) (T := TX2) (N := 5) hx hb hts in_RX2 hown hK hP 0 rfl rfl 4 (by decide) (hts _ (List.mem_of_getElem? (i := 1) rfl)) (fun _ h9 => h9) rfl dX2_add_53 ?_
    refine lv_iconst (v := 1) hx hb dX2_add_56 (by decide) ?_
    refine lv_iadd hx hb dX2_add_57 ?_
    refine z_top (y := nI (cn + 1)) (nI_1 cn) ?_
    refine va_put (D := D) (ci := 6) (v := .int (nI (cn + 1))) (ty := .int) (C := RX2) (T := TX2) (N := 5) hx hb hts in_RX2 tyX2 tyX2_ok nmX2 hown hK hP hD hS 0 rfl rfl 4 (by decide) (hts _ (List.mem_of_getElem? (i := 1) rfl)) (fun _ h9 => h9) rfl (by decide +kernel) rfl rfl (Nat.le_of_ble_eq_true rfl) dX2_add_58 (fun H locs hP hD hS => ?_)
    have hP : va_P D vwCl [(k0, .inr (6, [.ref w0, .ref y0, .ref f0, .ref d0, .int (nI (cn + 1))])), (w0, .inl (cy 0, 30, .inl (upd cw cn wd))), (y0, .inl (cy 0, 30, .inl (upd cyn cn yu))), (f0, .inl (cy 0, 30, .inl (upd cf cn fe))), (d0, .inl (cy 0, 30, .inl (upd cd cn dr)))] H := hP
    have hD : va_D A [(k0, .inr (6, [.ref w0, .ref y0, .ref f0, .ref d0, .int (nI (cn + 1))])), (w0, .inl (cy 0, 30, .inl (upd cw cn wd))), (y0, .inl (cy 0, 30, .inl (upd cyn cn yu))), (f0, .inl (cy 0, 30, .inl (upd cf cn fe))), (d0, .inl (cy 0, 30, .inl (upd cd cn dr)))] := hD
    exact zvret hend hx hb hr hlk hK hP hD hS dX2_add_61 rfl
  · exact absurd ((nI_ltI (by omega) (by omega)).mpr hcn) c_1

abbrev rmX2_countStitches : Room := { frames := 0, cells := 0, slots := 0, locals := 0 }
set_option maxHeartbeats 4000000 in
set_option maxRecDepth 100000 in
theorem c_X2_countStitches {G : zG} (hg : zGN G) (l : Launch) (D : va_G) (cy : Nat → ClassId) (k0 : Nat) (w0 : Nat) (y0 : Nat) (f0 : Nat) (d0 : Nat) (cw : Nat → Int32) (cyn : Nat → Int32) (cf : Nat → Int32) (cd : Nat → Int32) (cn : Nat) (hcn : cn ≤ 30) : zM G D vwCl (zT cy) l yX2_countStitches wsX2_countStitches rmX2_countStitches [.ref k0] [(k0, .inr (6, [.ref w0, .ref y0, .ref f0, .ref d0, .int (nI cn)])), (w0, .inl (cy 0, 30, .inl cw)), (y0, .inl (cy 0, 30, .inl cyn)), (f0, .inl (cy 0, 30, .inl cf)), (d0, .inl (cy 0, 30, .inl cd))] (some (.int (zsum cw cn))) [(k0, .inr (6, [.ref w0, .ref y0, .ref f0, .ref d0, .int (nI cn)])), (w0, .inl (cy 0, 30, .inl cw)), (y0, .inl (cy 0, 30, .inl cyn)), (f0, .inl (cy 0, 30, .inl cf)), (d0, .inl (cy 0, 30, .inl cd))] := by
  refine zM_of (cc := cX2_countStitches) (maxL := 3) (ret := (some .int)) (by decide) rfl (Nat.le_of_ble_eq_true rfl) ?_
  intro p e s m below meth c A Q hend hx hb hml hr hts hown hlk hG hK hP hD hA hS ls hl
  have hown : s.vm.findClass RX2 = some m.cls := hown
  have in_RX2 : ∀ w ∈ u_ws RX2 TX2 5, w ∈ wsX2_countStitches := by decide +kernel
  have hl : lv_has ls 3 [(0, .ref k0)] := hl
  refine lv_iconst (v := 0) hx hb dX2_countStitches_0 (by decide) ?_
  refine lv_istore_n (lv' := [(1, .int 0), (0, .ref k0)]) hx hb dX2_countStitches_1 rfl hl (by decide) rfl (fun ls hl => ?_)
  refine lv_iconst (v := 0) hx hb dX2_countStitches_2 (by decide) ?_
  refine lv_istore_n (lv' := [(2, .int 0), (1, .int 0), (0, .ref k0)]) hx hb dX2_countStitches_3 rfl hl (by decide) rfl (fun ls hl => ?_)
  have L4 : ∀ (F : Nat) (k : Nat) (x4_0 : Int32), k ≤ cn → cn - k < F → x4_0 = zsum cw k → ∀ (H : Heap) (locs : List Loc), va_P D vwCl [(k0, .inr (6, [.ref w0, .ref y0, .ref f0, .ref d0, .int (nI cn)])), (w0, .inl (cy 0, 30, .inl cw)), (y0, .inl (cy 0, 30, .inl cyn)), (f0, .inl (cy 0, 30, .inl cf)), (d0, .inl (cy 0, 30, .inl cd))] H → va_D A [(k0, .inr (6, [.ref w0, .ref y0, .ref f0, .ref d0, .int (nI cn)])), (w0, .inl (cy 0, 30, .inl cw)), (y0, .inl (cy 0, 30, .inl cyn)), (f0, .inl (cy 0, 30, .inl cf)), (d0, .inl (cy 0, 30, .inl cd))] → va_S A s.heap H locs → ∀ ls : Array Slot, lv_has ls 3 [(0, .ref k0), (1, .int x4_0), (2, .int (nI k))] → W p l e rmX2_countStitches s m ([.ref k0] : List Value).toArray below meth c H locs 0 0 Q (F0 m 4 ls []) := by
    intro F
    induction F with
    | zero =>
      intro k x4_0 hk hF ex4_0 H locs hP hD hS ls hl
      exact absurd hF (Nat.not_lt_zero _)
    | succ F ih4 =>
      intro k x4_0 hk hF ex4_0 H locs hP hD hS ls hl
      subst ex4_0
      refine lv_iload_n hx hb dX2_countStitches_4 rfl (lv_at hl 2 rfl) ?_
      refine lv_aload_n hx hb dX2_countStitches_5 rfl (lv_at hl 0 rfl) ?_
      refine va_get (D := D) (ci := 6) (v := .int (nI cn)) (C := RX2) (T := TX2) (N := 5) hx hb hts in_RX2 hown hK hP 0 rfl rfl 4 (by decide) (hts _ (List.mem_of_getElem? (i := 1) rfl)) (fun _ h9 => h9) rfl dX2_countStitches_6 ?_
      refine lv_icmp_ge (tgt := 27) hx hb dX2_countStitches_9 (by decide) (fun c_1 => ?_) (fun c_1 => ?_)
      · have hk2 : cn ≤ k := (nI_leI (by omega) (by omega)).mp c_1
        obtain rfl : cn = k := by omega
        refine lv_iload_n hx hb dX2_countStitches_27 rfl (lv_at hl 1 rfl) ?_
        exact ziret hend hx hb hr hlk hK hP hD hS dX2_countStitches_28 rfl rfl
      · have hk2 : k < cn := Nat.lt_of_not_le (fun z => c_1 (nI_le z (by omega)))
        refine lv_iload_n hx hb dX2_countStitches_12 rfl (lv_at hl 1 rfl) ?_
        refine lv_aload_n hx hb dX2_countStitches_13 rfl (lv_at hl 0 rfl) ?_
        refine va_get (D := D) (ci := 6) (v := .ref w0) (C := RX2) (T := TX2) (N := 5) hx hb hts in_RX2 hown hK hP 0 rfl rfl 0 (by decide) (hts _ (List.mem_of_getElem? (i := 2) rfl)) (fun _ h9 => h9) rfl dX2_countStitches_14 ?_
        refine lv_iload_n hx hb dX2_countStitches_17 rfl (lv_at hl 2 rfl) ?_
        refine ziald 1 0 k hx hb hK hP rfl rfl (by omega) (z_lt rfl) dX2_countStitches_18 ?_
        refine lv_iadd hx hb dX2_countStitches_19 ?_
        refine lv_istore_n (lv' := [(1, .int ((zsum cw k) + (cw k))), (0, .ref k0), (2, .int (nI k))]) hx hb dX2_countStitches_20 rfl hl (by decide) rfl (fun ls hl => ?_)
        refine lv_iinc (v := nI (k + 1)) (lv' := [(2, .int (nI (k + 1))), (1, .int ((zsum cw k) + (cw k))), (0, .ref k0)]) hx hb dX2_countStitches_21 hl (k := 2) rfl (by rw [show Int32.ofInt 1 = nI 1 from rfl, nI_add]) (by decide) rfl (fun ls hl => ?_)
        refine lv_goto (tgt := 4) hx hb dX2_countStitches_24 (by decide) ?_
        exact ih4 (k + 1) ((zsum cw k) + (cw k)) (by omega) (by omega) (by rfl) H locs hP hD hS ls (lv_sub hl [2, 1, 0] rfl)
  exact L4 (cn - 0 + 1) 0 0 (by omega) (Nat.lt_succ_self _) (by rfl) s.heap [] hP hD hS ls (lv_sub hl [2, 1, 0] rfl)

abbrev rmX2_comesBefore : Room := { frames := 0, cells := 0, slots := 0, locals := 0 }
set_option maxHeartbeats 4000000 in
set_option maxRecDepth 100000 in
theorem c_X2_comesBefore {G : zG} (hg : zGN G) (l : Launch) (D : va_G) (cy : Nat → ClassId) (k0 : Nat) (w0 : Nat) (y0 : Nat) (f0 : Nat) (d0 : Nat) (cw : Nat → Int32) (cyn : Nat → Int32) (cf : Nat → Int32) (cd : Nat → Int32) (cn : Nat) (i : Nat) (j : Nat) (hi : i < 30) (hj : j < 30) : zM G D vwCl (zT cy) l yX2_comesBefore wsX2_comesBefore rmX2_comesBefore [.ref k0, .int (nI i), .int (nI j)] [(k0, .inr (6, [.ref w0, .ref y0, .ref f0, .ref d0, .int (nI cn)])), (w0, .inl (cy 0, 30, .inl cw)), (y0, .inl (cy 0, 30, .inl cyn)), (f0, .inl (cy 0, 30, .inl cf)), (d0, .inl (cy 0, 30, .inl cd))] (some (.int (zI (zcb cw cd i j)))) [(k0, .inr (6, [.ref w0, .ref y0, .ref f0, .ref d0, .int (nI cn)])), (w0, .inl (cy 0, 30, .inl cw)), (y0, .inl (cy 0, 30, .inl cyn)), (f0, .inl (cy 0, 30, .inl cf)), (d0, .inl (cy 0, 30, .inl cd))] := by
  refine zM_of (cc := cX2_comesBefore) (maxL := 3) (ret := (some .boolean)) (by decide) rfl (Nat.le_of_ble_eq_true rfl) ?_
  intro p e s m below meth c A Q hend hx hb hml hr hts hown hlk hG hK hP hD hA hS ls hl
  have hown : s.vm.findClass RX2 = some m.cls := hown
  have in_RX2 : ∀ w ∈ u_ws RX2 TX2 5, w ∈ wsX2_comesBefore := by decide +kernel
  have hl : lv_has ls 3 [(0, .ref k0), (1, .int (nI i)), (2, .int (nI j))] := hl
  refine lv_aload_n hx hb dX2_comesBefore_0 rfl (lv_at hl 0 rfl) ?_
  refine va_get (D := D) (ci := 6) (v := .ref w0) (C := RX2) (T := TX2) (N := 5) hx hb hts in_RX2 hown hK hP 0 rfl rfl 0 (by decide) (hts _ (List.mem_of_getElem? (i := 1) rfl)) (fun _ h9 => h9) rfl dX2_comesBefore_1 ?_
  refine lv_iload_n hx hb dX2_comesBefore_4 rfl (lv_at hl 1 rfl) ?_
  refine ziald 1 0 i hx hb hK hP rfl rfl (by omega) (z_lt rfl) dX2_comesBefore_5 ?_
  refine lv_aload_n hx hb dX2_comesBefore_6 rfl (lv_at hl 0 rfl) ?_
  refine va_get (D := D) (ci := 6) (v := .ref w0) (C := RX2) (T := TX2) (N := 5) hx hb hts in_RX2 hown hK hP 0 rfl rfl 0 (by decide) (hts _ (List.mem_of_getElem? (i := 1) rfl)) (fun _ h9 => h9) rfl dX2_comesBefore_7 ?_
  refine lv_iload_n hx hb dX2_comesBefore_10 rfl (lv_at hl 2 rfl) ?_
  refine ziald 1 0 j hx hb hK hP rfl rfl (by omega) (z_lt rfl) dX2_comesBefore_11 ?_
  refine lv_icmp_eq (tgt := 36) hx hb dX2_comesBefore_12 (by decide) (fun c_1 => ?_) (fun c_1 => ?_)
  · refine lv_aload_n hx hb dX2_comesBefore_36 rfl (lv_at hl 0 rfl) ?_
    refine va_get (D := D) (ci := 6) (v := .ref d0) (C := RX2) (T := TX2) (N := 5) hx hb hts in_RX2 hown hK hP 0 rfl rfl 3 (by decide) (hts _ (List.mem_of_getElem? (i := 2) rfl)) (fun _ h9 => h9) rfl dX2_comesBefore_37 ?_
    refine lv_iload_n hx hb dX2_comesBefore_40 rfl (lv_at hl 1 rfl) ?_
    refine ziald 4 0 i hx hb hK hP rfl rfl (by omega) (z_lt rfl) dX2_comesBefore_41 ?_
    refine lv_aload_n hx hb dX2_comesBefore_42 rfl (lv_at hl 0 rfl) ?_
    refine va_get (D := D) (ci := 6) (v := .ref d0) (C := RX2) (T := TX2) (N := 5) hx hb hts in_RX2 hown hK hP 0 rfl rfl 3 (by decide) (hts _ (List.mem_of_getElem? (i := 2) rfl)) (fun _ h9 => h9) rfl dX2_comesBefore_43 ?_
    refine lv_iload_n hx hb dX2_comesBefore_46 rfl (lv_at hl 2 rfl) ?_
    refine ziald 4 0 j hx hb hK hP rfl rfl (by omega) (z_lt rfl) dX2_comesBefore_47 ?_
    refine lv_icmp_eq (tgt := 72) hx hb dX2_comesBefore_48 (by decide) (fun c_2 => ?_) (fun c_2 => ?_)
    · refine lv_iload_n hx hb dX2_comesBefore_72 rfl (lv_at hl 1 rfl) ?_
      refine lv_iload_n hx hb dX2_comesBefore_73 rfl (lv_at hl 2 rfl) ?_
      refine lv_icmp_ge (tgt := 81) hx hb dX2_comesBefore_74 (by decide) (fun c_3 => ?_) (fun c_3 => ?_)
      · refine lv_iconst (v := 0) hx hb dX2_comesBefore_81 (by decide) ?_
        exact zzret hend hx hb hr hlk hK hP hD hS dX2_comesBefore_82 rfl (by first | (simp only [zI, zcb, c_1, c_2, c_3, decide_true, decide_false, Bool.not_true, Bool.not_false, Bool.and_true, Bool.true_and, Bool.and_false, Bool.false_and, Bool.or_false, Bool.false_or, Bool.or_true, Bool.true_or, ↓reduceIte, Bool.false_eq_true, not_true_eq_false, not_false_eq_true, and_self]; done) | (simp [zI, zcb, c_1, c_2, c_3]; done) | (simp_all [zI, zcb]; done)) rfl
      · refine lv_iconst (v := 1) hx hb dX2_comesBefore_77 (by decide) ?_
        refine lv_goto (tgt := 82) hx hb dX2_comesBefore_78 (by decide) ?_
        exact zzret hend hx hb hr hlk hK hP hD hS dX2_comesBefore_82 rfl (by first | (simp only [zI, zcb, c_1, c_2, c_3, decide_true, decide_false, Bool.not_true, Bool.not_false, Bool.and_true, Bool.true_and, Bool.and_false, Bool.false_and, Bool.or_false, Bool.false_or, Bool.or_true, Bool.true_or, ↓reduceIte, Bool.false_eq_true, not_true_eq_false, not_false_eq_true, and_self]; done) | (simp [zI, zcb, c_1, c_2, c_3]; done) | (simp_all [zI, zcb]; done)) rfl
    · refine lv_aload_n hx hb dX2_comesBefore_51 rfl (lv_at hl 0 rfl) ?_
      refine va_get (D := D) (ci := 6) (v := .ref d0) (C := RX2) (T := TX2) (N := 5) hx hb hts in_RX2 hown hK hP 0 rfl rfl 3 (by decide) (hts _ (List.mem_of_getElem? (i := 2) rfl)) (fun _ h9 => h9) rfl dX2_comesBefore_52 ?_
      refine lv_iload_n hx hb dX2_comesBefore_55 rfl (lv_at hl 1 rfl) ?_
      refine ziald 4 0 i hx hb hK hP rfl rfl (by omega) (z_lt rfl) dX2_comesBefore_56 ?_
      refine lv_aload_n hx hb dX2_comesBefore_57 rfl (lv_at hl 0 rfl) ?_
      refine va_get (D := D) (ci := 6) (v := .ref d0) (C := RX2) (T := TX2) (N := 5) hx hb hts in_RX2 hown hK hP 0 rfl rfl 3 (by decide) (hts _ (List.mem_of_getElem? (i := 2) rfl)) (fun _ h9 => h9) rfl dX2_comesBefore_58 ?_
      refine lv_iload_n hx hb dX2_comesBefore_61 rfl (lv_at hl 2 rfl) ?_
      refine ziald 4 0 j hx hb hK hP rfl rfl (by omega) (z_lt rfl) dX2_comesBefore_62 ?_
      refine lv_icmp_ge (tgt := 70) hx hb dX2_comesBefore_63 (by decide) (fun c_4 => ?_) (fun c_4 => ?_)
      · refine lv_iconst (v := 0) hx hb dX2_comesBefore_70 (by decide) ?_
        exact zzret hend hx hb hr hlk hK hP hD hS dX2_comesBefore_71 rfl (by first | (simp only [zI, zcb, c_1, c_2, c_4, decide_true, decide_false, Bool.not_true, Bool.not_false, Bool.and_true, Bool.true_and, Bool.and_false, Bool.false_and, Bool.or_false, Bool.false_or, Bool.or_true, Bool.true_or, ↓reduceIte, Bool.false_eq_true, not_true_eq_false, not_false_eq_true, and_self]; done) | (simp [zI, zcb, c_1, c_2, c_4]; done) | (simp_all [zI, zcb]; done)) rfl
      · refine lv_iconst (v := 1) hx hb dX2_comesBefore_66 (by decide) ?_
        refine lv_goto (tgt := 71) hx hb dX2_comesBefore_67 (by decide) ?_
        exact zzret hend hx hb hr hlk hK hP hD hS dX2_comesBefore_71 rfl (by first | (simp only [zI, zcb, c_1, c_2, c_4, decide_true, decide_false, Bool.not_true, Bool.not_false, Bool.and_true, Bool.true_and, Bool.and_false, Bool.false_and, Bool.or_false, Bool.false_or, Bool.or_true, Bool.true_or, ↓reduceIte, Bool.false_eq_true, not_true_eq_false, not_false_eq_true, and_self]; done) | (simp [zI, zcb, c_1, c_2, c_4]; done) | (simp_all [zI, zcb]; done)) rfl
  · refine lv_aload_n hx hb dX2_comesBefore_15 rfl (lv_at hl 0 rfl) ?_
    refine va_get (D := D) (ci := 6) (v := .ref w0) (C := RX2) (T := TX2) (N := 5) hx hb hts in_RX2 hown hK hP 0 rfl rfl 0 (by decide) (hts _ (List.mem_of_getElem? (i := 1) rfl)) (fun _ h9 => h9) rfl dX2_comesBefore_16 ?_
    refine lv_iload_n hx hb dX2_comesBefore_19 rfl (lv_at hl 1 rfl) ?_
    refine ziald 1 0 i hx hb hK hP rfl rfl (by omega) (z_lt rfl) dX2_comesBefore_20 ?_
    refine lv_aload_n hx hb dX2_comesBefore_21 rfl (lv_at hl 0 rfl) ?_
    refine va_get (D := D) (ci := 6) (v := .ref w0) (C := RX2) (T := TX2) (N := 5) hx hb hts in_RX2 hown hK hP 0 rfl rfl 0 (by decide) (hts _ (List.mem_of_getElem? (i := 1) rfl)) (fun _ h9 => h9) rfl dX2_comesBefore_22 ?_
    refine lv_iload_n hx hb dX2_comesBefore_25 rfl (lv_at hl 2 rfl) ?_
    refine ziald 1 0 j hx hb hK hP rfl rfl (by omega) (z_lt rfl) dX2_comesBefore_26 ?_
    refine lv_icmp_le (tgt := 34) hx hb dX2_comesBefore_27 (by decide) (fun c_5 => ?_) (fun c_5 => ?_)
    · refine lv_iconst (v := 0) hx hb dX2_comesBefore_34 (by decide) ?_
      exact zzret hend hx hb hr hlk hK hP hD hS dX2_comesBefore_35 rfl (by first | (simp only [zI, zcb, c_1, c_5, decide_true, decide_false, Bool.not_true, Bool.not_false, Bool.and_true, Bool.true_and, Bool.and_false, Bool.false_and, Bool.or_false, Bool.false_or, Bool.or_true, Bool.true_or, ↓reduceIte, Bool.false_eq_true, not_true_eq_false, not_false_eq_true, and_self]; done) | (simp [zI, zcb, c_1, c_5]; done) | (simp_all [zI, zcb]; done)) rfl
    · refine lv_iconst (v := 1) hx hb dX2_comesBefore_30 (by decide) ?_
      refine lv_goto (tgt := 35) hx hb dX2_comesBefore_31 (by decide) ?_
      exact zzret hend hx hb hr hlk hK hP hD hS dX2_comesBefore_35 rfl (by first | (simp only [zI, zcb, c_1, c_5, decide_true, decide_false, Bool.not_true, Bool.not_false, Bool.and_true, Bool.true_and, Bool.and_false, Bool.false_and, Bool.or_false, Bool.false_or, Bool.or_true, Bool.true_or, ↓reduceIte, Bool.false_eq_true, not_true_eq_false, not_false_eq_true, and_self]; done) | (simp [zI, zcb, c_1, c_5]; done) | (simp_all [zI, zcb]; done)) rfl

abbrev rmX2_positionOf : Room := { frames := 1, cells := 0, slots := 0, locals := 22 }
set_option maxHeartbeats 4000000 in
set_option maxRecDepth 100000 in
theorem c_X2_positionOf {G : zG} (hg : zGN G) (l : Launch) (D : va_G) (cy : Nat → ClassId) (k0 : Nat) (w0 : Nat) (y0 : Nat) (f0 : Nat) (d0 : Nat) (cw : Nat → Int32) (cyn : Nat → Int32) (cf : Nat → Int32) (cd : Nat → Int32) (cn : Nat) (i : Nat) (hcn : cn ≤ 30) (hi : i < 30) : zM G D vwCl (zT cy) l yX2_positionOf wsX2_positionOf rmX2_positionOf [.ref k0, .int (nI i)] [(k0, .inr (6, [.ref w0, .ref y0, .ref f0, .ref d0, .int (nI cn)])), (w0, .inl (cy 0, 30, .inl cw)), (y0, .inl (cy 0, 30, .inl cyn)), (f0, .inl (cy 0, 30, .inl cf)), (d0, .inl (cy 0, 30, .inl cd))] (some (.int (zps cw cd i cn))) [(k0, .inr (6, [.ref w0, .ref y0, .ref f0, .ref d0, .int (nI cn)])), (w0, .inl (cy 0, 30, .inl cw)), (y0, .inl (cy 0, 30, .inl cyn)), (f0, .inl (cy 0, 30, .inl cf)), (d0, .inl (cy 0, 30, .inl cd))] := by
  refine zM_of (cc := cX2_positionOf) (maxL := 4) (ret := (some .int)) (by decide) rfl (Nat.le_of_ble_eq_true rfl) ?_
  intro p e s m below meth c A Q hend hx hb hml hr hts hown hlk hG hK hP hD hA hS ls hl
  have hown : s.vm.findClass RX2 = some m.cls := hown
  have in_RX2 : ∀ w ∈ u_ws RX2 TX2 5, w ∈ wsX2_positionOf := by decide +kernel
  have hl : lv_has ls 4 [(0, .ref k0), (1, .int (nI i))] := hl
  refine lv_iconst (v := 0) hx hb dX2_positionOf_0 (by decide) ?_
  refine lv_istore_n (lv' := [(2, .int 0), (0, .ref k0), (1, .int (nI i))]) hx hb dX2_positionOf_1 rfl hl (by decide) rfl (fun ls hl => ?_)
  refine lv_iconst (v := 0) hx hb dX2_positionOf_2 (by decide) ?_
  refine lv_istore_n (lv' := [(3, .int 0), (2, .int 0), (0, .ref k0), (1, .int (nI i))]) hx hb dX2_positionOf_3 rfl hl (by decide) rfl (fun ls hl => ?_)
  have L4 : ∀ (F : Nat) (k : Nat) (x4_0 : Int32), k ≤ cn → cn - k < F → x4_0 = zps cw cd i k → ∀ (H : Heap) (locs : List Loc), va_P D vwCl [(k0, .inr (6, [.ref w0, .ref y0, .ref f0, .ref d0, .int (nI cn)])), (w0, .inl (cy 0, 30, .inl cw)), (y0, .inl (cy 0, 30, .inl cyn)), (f0, .inl (cy 0, 30, .inl cf)), (d0, .inl (cy 0, 30, .inl cd))] H → va_D A [(k0, .inr (6, [.ref w0, .ref y0, .ref f0, .ref d0, .int (nI cn)])), (w0, .inl (cy 0, 30, .inl cw)), (y0, .inl (cy 0, 30, .inl cyn)), (f0, .inl (cy 0, 30, .inl cf)), (d0, .inl (cy 0, 30, .inl cd))] → va_S A s.heap H locs → ∀ ls : Array Slot, lv_has ls 4 [(0, .ref k0), (1, .int (nI i)), (2, .int x4_0), (3, .int (nI k))] → W p l e rmX2_positionOf s m ([.ref k0, .int (nI i)] : List Value).toArray below meth c H locs 0 0 Q (F0 m 4 ls []) := by
    intro F
    induction F with
    | zero =>
      intro k x4_0 hk hF ex4_0 H locs hP hD hS ls hl
      exact absurd hF (Nat.not_lt_zero _)
    | succ F ih4 =>
      intro k x4_0 hk hF ex4_0 H locs hP hD hS ls hl
      subst ex4_0
      refine lv_iload_n hx hb dX2_positionOf_4 rfl (lv_at hl 3 rfl) ?_
      refine lv_aload_n hx hb dX2_positionOf_5 rfl (lv_at hl 0 rfl) ?_
      refine va_get (D := D) (ci := 6) (v := .int (nI cn)) (C := RX2) (T := TX2) (N := 5) hx hb hts in_RX2 hown hK hP 0 rfl rfl 4 (by decide) (hts _ (List.mem_of_getElem? (i := 1) rfl)) (fun _ h9 => h9) rfl dX2_positionOf_6 ?_
      refine lv_icmp_ge (tgt := 30) hx hb dX2_positionOf_9 (by decide) (fun c_1 => ?_) (fun c_1 => ?_)
      · have hk2 : cn ≤ k := (nI_leI (by omega) (by omega)).mp c_1
        obtain rfl : cn = k := by omega
        refine lv_iload_n hx hb dX2_positionOf_30 rfl (lv_at hl 2 rfl) ?_
        exact ziret hend hx hb hr hlk hK hP hD hS dX2_positionOf_31 rfl rfl
      · have hk2 : k < cn := Nat.lt_of_not_le (fun z => c_1 (nI_le z (by omega)))
        refine lv_aload_n hx hb dX2_positionOf_12 rfl (lv_at hl 0 rfl) ?_
        refine lv_iload_n hx hb dX2_positionOf_13 rfl (lv_at hl 3 rfl) ?_
        refine lv_iload_n hx hb dX2_positionOf_14 rfl (lv_at hl 1 rfl) ?_
        refine zcV (As := [.int (nI k), .int (nI i)]) (rest := []) [0, 1, 2, 3, 4] 0 hg.1 ⟨hx, hb, hml, hown, hts⟩ (c_X2_comesBefore hg l D cy k0 w0 y0 f0 d0 cw cyn cf cd cn k i (by first | assumption | omega) (by first | assumption | omega)) (cwV 2 hts gX2_positionOf_X2_comesBefore rfl rfl rfl (by decide +kernel) ⟨Nat.le_of_ble_eq_true rfl, Nat.le_of_ble_eq_true rfl⟩) hG hK hP hD hS hA rfl rfl rfl rfl rfl rfl hl.1 rfl (Nat.le_of_ble_eq_true rfl) dX2_positionOf_15 ⟨Nat.zero_le _, Nat.zero_le _⟩ (fun H locs hP hD hS => ?_)
        have hP : va_P D vwCl [(k0, .inr (6, [.ref w0, .ref y0, .ref f0, .ref d0, .int (nI cn)])), (w0, .inl (cy 0, 30, .inl cw)), (y0, .inl (cy 0, 30, .inl cyn)), (f0, .inl (cy 0, 30, .inl cf)), (d0, .inl (cy 0, 30, .inl cd))] H := hP
        have hD : va_D A [(k0, .inr (6, [.ref w0, .ref y0, .ref f0, .ref d0, .int (nI cn)])), (w0, .inl (cy 0, 30, .inl cw)), (y0, .inl (cy 0, 30, .inl cyn)), (f0, .inl (cy 0, 30, .inl cf)), (d0, .inl (cy 0, 30, .inl cd))] := hD
        refine lv_if_eq (tgt := 24) hx hb dX2_positionOf_18 (by decide) (fun c_2 => ?_) (fun c_2 => ?_)
        · replace c_2 := zI0 c_2
          refine lv_iinc (v := nI (k + 1)) (lv' := [(3, .int (nI (k + 1))), (0, .ref k0), (1, .int (nI i)), (2, .int (zps cw cd i k))]) hx hb dX2_positionOf_24 hl (k := 3) rfl (by rw [show Int32.ofInt 1 = nI 1 from rfl, nI_add]) (by decide) rfl (fun ls hl => ?_)
          refine lv_goto (tgt := 4) hx hb dX2_positionOf_27 (by decide) ?_
          exact ih4 (k + 1) (zps cw cd i k) (by omega) (by omega) (by first | (simp only [zps, c_1, c_2, decide_true, decide_false, Bool.not_true, Bool.not_false, Bool.and_true, Bool.true_and, Bool.and_false, Bool.false_and, Bool.or_false, Bool.false_or, Bool.or_true, Bool.true_or, ↓reduceIte, Bool.false_eq_true, not_true_eq_false, not_false_eq_true, and_self]; done) | (simp [zps, c_1, c_2]; done) | (simp_all [zps]; done)) H locs hP hD hS ls (lv_sub hl [1, 2, 3, 0] rfl)
        · replace c_2 := zI1 c_2
          refine lv_iinc (v := zps cw cd i k + 1) (lv' := [(2, .int (zps cw cd i k + 1)), (0, .ref k0), (1, .int (nI i)), (3, .int (nI k))]) hx hb dX2_positionOf_21 hl (k := 2) rfl (rfl) (by decide) rfl (fun ls hl => ?_)
          refine lv_iinc (v := nI (k + 1)) (lv' := [(3, .int (nI (k + 1))), (2, .int (zps cw cd i k + 1)), (0, .ref k0), (1, .int (nI i))]) hx hb dX2_positionOf_24 hl (k := 3) rfl (by rw [show Int32.ofInt 1 = nI 1 from rfl, nI_add]) (by decide) rfl (fun ls hl => ?_)
          refine lv_goto (tgt := 4) hx hb dX2_positionOf_27 (by decide) ?_
          exact ih4 (k + 1) (zps cw cd i k + 1) (by omega) (by omega) (by first | (simp only [zps, c_1, c_2, decide_true, decide_false, Bool.not_true, Bool.not_false, Bool.and_true, Bool.true_and, Bool.and_false, Bool.false_and, Bool.or_false, Bool.false_or, Bool.or_true, Bool.true_or, ↓reduceIte, Bool.false_eq_true, not_true_eq_false, not_false_eq_true, and_self]; done) | (simp [zps, c_1, c_2]; done) | (simp_all [zps]; done)) H locs hP hD hS ls (lv_sub hl [2, 3, 1, 0] rfl)
  exact L4 (cn - 0 + 1) 0 0 (by omega) (Nat.lt_succ_self _) (by rfl) s.heap [] hP hD hS ls (lv_sub hl [2, 3, 1, 0] rfl)

abbrev rmX2_courseAt : Room := { frames := 2, cells := 0, slots := 0, locals := 45 }
set_option maxHeartbeats 4000000 in
set_option maxRecDepth 100000 in
theorem c_X2_courseAt {G : zG} (hg : zGN G) (l : Launch) (D : va_G) (cy : Nat → ClassId) (k0 : Nat) (w0 : Nat) (y0 : Nat) (f0 : Nat) (d0 : Nat) (cw : Nat → Int32) (cyn : Nat → Int32) (cf : Nat → Int32) (cd : Nat → Int32) (cn : Nat) (ps : Int32) (hcn : cn ≤ 30) : zM G D vwCl (zT cy) l yX2_courseAt wsX2_courseAt rmX2_courseAt [.ref k0, .int ps] [(k0, .inr (6, [.ref w0, .ref y0, .ref f0, .ref d0, .int (nI cn)])), (w0, .inl (cy 0, 30, .inl cw)), (y0, .inl (cy 0, 30, .inl cyn)), (f0, .inl (cy 0, 30, .inl cf)), (d0, .inl (cy 0, 30, .inl cd))] (some (.int (zfi (fun q => decide (zps cw cd q cn = ps)) cn 0))) [(k0, .inr (6, [.ref w0, .ref y0, .ref f0, .ref d0, .int (nI cn)])), (w0, .inl (cy 0, 30, .inl cw)), (y0, .inl (cy 0, 30, .inl cyn)), (f0, .inl (cy 0, 30, .inl cf)), (d0, .inl (cy 0, 30, .inl cd))] := by
  refine zM_of (cc := cX2_courseAt) (maxL := 3) (ret := (some .int)) (by decide) rfl (Nat.le_of_ble_eq_true rfl) ?_
  intro p e s m below meth c A Q hend hx hb hml hr hts hown hlk hG hK hP hD hA hS ls hl
  have hown : s.vm.findClass RX2 = some m.cls := hown
  have in_RX2 : ∀ w ∈ u_ws RX2 TX2 5, w ∈ wsX2_courseAt := by decide +kernel
  have hl : lv_has ls 3 [(0, .ref k0), (1, .int ps)] := hl
  refine lv_iconst (v := 0) hx hb dX2_courseAt_0 (by decide) ?_
  refine lv_istore_n (lv' := [(2, .int 0), (0, .ref k0), (1, .int ps)]) hx hb dX2_courseAt_1 rfl hl (by decide) rfl (fun ls hl => ?_)
  have L2 : ∀ (F : Nat) (k : Nat), k ≤ cn → zfi (fun q => decide (zps cw cd q cn = ps)) cn 0 = zfi (fun q => decide (zps cw cd q cn = ps)) (cn - k) k → cn - k < F → ∀ (H : Heap) (locs : List Loc), va_P D vwCl [(k0, .inr (6, [.ref w0, .ref y0, .ref f0, .ref d0, .int (nI cn)])), (w0, .inl (cy 0, 30, .inl cw)), (y0, .inl (cy 0, 30, .inl cyn)), (f0, .inl (cy 0, 30, .inl cf)), (d0, .inl (cy 0, 30, .inl cd))] H → va_D A [(k0, .inr (6, [.ref w0, .ref y0, .ref f0, .ref d0, .int (nI cn)])), (w0, .inl (cy 0, 30, .inl cw)), (y0, .inl (cy 0, 30, .inl cyn)), (f0, .inl (cy 0, 30, .inl cf)), (d0, .inl (cy 0, 30, .inl cd))] → va_S A s.heap H locs → ∀ ls : Array Slot, lv_has ls 3 [(0, .ref k0), (1, .int ps), (2, .int (nI k))] → W p l e rmX2_courseAt s m ([.ref k0, .int ps] : List Value).toArray below meth c H locs 0 0 Q (F0 m 2 ls []) := by
    intro F
    induction F with
    | zero =>
      intro k hk hr2 hF H locs hP hD hS ls hl
      exact absurd hF (Nat.not_lt_zero _)
    | succ F ih2 =>
      intro k hk hr2 hF H locs hP hD hS ls hl
      refine lv_iload_n hx hb dX2_courseAt_2 rfl (lv_at hl 2 rfl) ?_
      refine lv_aload_n hx hb dX2_courseAt_3 rfl (lv_at hl 0 rfl) ?_
      refine va_get (D := D) (ci := 6) (v := .int (nI cn)) (C := RX2) (T := TX2) (N := 5) hx hb hts in_RX2 hown hK hP 0 rfl rfl 4 (by decide) (hts _ (List.mem_of_getElem? (i := 1) rfl)) (fun _ h9 => h9) rfl dX2_courseAt_4 ?_
      refine lv_icmp_ge (tgt := 27) hx hb dX2_courseAt_7 (by decide) (fun c_1 => ?_) (fun c_1 => ?_)
      · have hk2 : cn ≤ k := (nI_leI (by omega) (by omega)).mp c_1
        obtain rfl : cn = k := by omega
        refine lv_iconst (v := (-1)) hx hb dX2_courseAt_27 (by decide) ?_
        exact ziret hend hx hb hr hlk hK hP hD hS dX2_courseAt_28 (by first | (rw [hr2, show cn - k = (cn - (k + 1)) + 1 by omega, zfi]; simp [c_1]; done) | (rw [hr2, Nat.sub_self]; rfl)) rfl
      · have hk2 : k < cn := Nat.lt_of_not_le (fun z => c_1 (nI_le z (by omega)))
        refine lv_aload_n hx hb dX2_courseAt_10 rfl (lv_at hl 0 rfl) ?_
        refine lv_iload_n hx hb dX2_courseAt_11 rfl (lv_at hl 2 rfl) ?_
        refine zcV (As := [.int (nI k)]) (rest := []) [0, 1, 2, 3, 4] 0 hg.1 ⟨hx, hb, hml, hown, hts⟩ (c_X2_positionOf hg l D cy k0 w0 y0 f0 d0 cw cyn cf cd cn k (by first | assumption | omega) (by first | assumption | omega)) (cwV 1 hts gX2_courseAt_X2_positionOf rfl rfl rfl (by decide +kernel) ⟨Nat.le_of_ble_eq_true rfl, Nat.le_of_ble_eq_true rfl⟩) hG hK hP hD hS hA rfl rfl rfl rfl rfl rfl hl.1 rfl (Nat.le_of_ble_eq_true rfl) dX2_courseAt_12 ⟨Nat.zero_le _, Nat.zero_le _⟩ (fun H locs hP hD hS => ?_)
        have hP : va_P D vwCl [(k0, .inr (6, [.ref w0, .ref y0, .ref f0, .ref d0, .int (nI cn)])), (w0, .inl (cy 0, 30, .inl cw)), (y0, .inl (cy 0, 30, .inl cyn)), (f0, .inl (cy 0, 30, .inl cf)), (d0, .inl (cy 0, 30, .inl cd))] H := hP
        have hD : va_D A [(k0, .inr (6, [.ref w0, .ref y0, .ref f0, .ref d0, .int (nI cn)])), (w0, .inl (cy 0, 30, .inl cw)), (y0, .inl (cy 0, 30, .inl cyn)), (f0, .inl (cy 0, 30, .inl cf)), (d0, .inl (cy 0, 30, .inl cd))] := hD
        refine lv_iload_n hx hb dX2_courseAt_15 rfl (lv_at hl 1 rfl) ?_
        refine lv_icmp_ne (tgt := 21) hx hb dX2_courseAt_16 (by decide) (fun c_2 => ?_) (fun c_2 => ?_)
        · refine lv_iinc (v := nI (k + 1)) (lv' := [(2, .int (nI (k + 1))), (0, .ref k0), (1, .int ps)]) hx hb dX2_courseAt_21 hl (k := 2) rfl (by rw [show Int32.ofInt 1 = nI 1 from rfl, nI_add]) (by decide) rfl (fun ls hl => ?_)
          refine lv_goto (tgt := 2) hx hb dX2_courseAt_24 (by decide) ?_
          exact ih2 (k + 1) (by omega) (by rw [hr2, show cn - k = (cn - (k + 1)) + 1 by omega, zfi]; simp [c_1, c_2]) (by omega) H locs hP hD hS ls (lv_sub hl [1, 2, 0] rfl)
        · refine lv_iload_n hx hb dX2_courseAt_19 rfl (lv_at hl 2 rfl) ?_
          exact ziret hend hx hb hr hlk hK hP hD hS dX2_courseAt_20 (by first | (rw [hr2, show cn - k = (cn - (k + 1)) + 1 by omega, zfi]; simp [c_1, c_2]; done) | (rw [hr2, Nat.sub_self]; rfl)) rfl
  exact L2 (cn - 0 + 1) 0 (by omega) rfl (Nat.lt_succ_self _) s.heap [] hP hD hS ls (lv_sub hl [1, 2, 0] rfl)
