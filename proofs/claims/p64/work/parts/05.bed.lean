abbrev rmX5_hasBit : Room := { frames := 0, cells := 0, slots := 0, locals := 0 }
set_option maxHeartbeats 4000000 in
set_option maxRecDepth 100000 in
theorem c_X5_hasBit {G : zG} (hg : zGN G) (l : Launch) (D : va_G) (cy : Nat → ClassId) (mq : Int32) (bq : Int32) : zM G D vwCl (zT cy) l yX5_hasBit wsX5_hasBit rmX5_hasBit [.int mq, .int bq] [] (some (.int (zI (zb mq bq)))) [] := by
  refine zM_of (cc := cX5_hasBit) (maxL := 2) (ret := (some .boolean)) (by decide) rfl (Nat.le_of_ble_eq_true rfl) ?_
  intro p e s m below meth c A Q hend hx hb hml hr hts hown hlk hG hK hP hD hA hS ls hl
  have hown : s.vm.findClass RX5 = some m.cls := hown
  have hl : lv_has ls 2 [(0, .int mq), (1, .int bq)] := hl
  refine lv_iload_n hx hb dX5_hasBit_0 rfl (lv_at hl 0 rfl) ?_
  refine lv_iload_n hx hb dX5_hasBit_1 rfl (lv_at hl 1 rfl) ?_
  refine lv_ishr hx hb dX5_hasBit_2 ?_
  refine lv_iconst (v := 1) hx hb dX5_hasBit_3 (by decide) ?_
  refine lv_iand hx hb dX5_hasBit_4 ?_
  refine lv_iconst (v := 1) hx hb dX5_hasBit_5 (by decide) ?_
  refine lv_icmp_ne (tgt := 13) hx hb dX5_hasBit_6 (by decide) (fun c_1 => ?_) (fun c_1 => ?_)
  · refine lv_iconst (v := 0) hx hb dX5_hasBit_13 (by decide) ?_
    exact zzret hend hx hb hr hlk hK hP hD hS dX5_hasBit_14 rfl (by first | (simp only [zI, zb, c_1, decide_true, decide_false, Bool.not_true, Bool.not_false, Bool.and_true, Bool.true_and, Bool.and_false, Bool.false_and, Bool.or_false, Bool.false_or, Bool.or_true, Bool.true_or, ↓reduceIte, Bool.false_eq_true, not_true_eq_false, not_false_eq_true, and_self]; done) | (simp [zI, zb, c_1]; done) | (simp_all [zI, zb]; done)) rfl
  · refine lv_iconst (v := 1) hx hb dX5_hasBit_9 (by decide) ?_
    refine lv_goto (tgt := 14) hx hb dX5_hasBit_10 (by decide) ?_
    exact zzret hend hx hb hr hlk hK hP hD hS dX5_hasBit_14 rfl (by first | (simp only [zI, zb, c_1, decide_true, decide_false, Bool.not_true, Bool.not_false, Bool.and_true, Bool.true_and, Bool.and_false, Bool.false_and, Bool.or_false, Bool.false_or, Bool.or_true, Bool.true_or, ↓reduceIte, Bool.false_eq_true, not_true_eq_false, not_false_eq_true, and_self]; done) | (simp [zI, zb, c_1]; done) | (simp_all [zI, zb]; done)) rfl

abbrev rmJ6_bitCount_0f7a4 : Room := { frames := 0, cells := 0, slots := 0, locals := 0 }
set_option maxHeartbeats 4000000 in
set_option maxRecDepth 100000 in
theorem c_J6_bitCount_0f7a4 {G : zG} (hg : zGN G) (l : Launch) (D : va_G) (cy : Nat → ClassId) (i : Int32) : zM G D vwCl (zT cy) l yJ6_bitCount_0f7a4 wsJ6_bitCount_0f7a4 rmJ6_bitCount_0f7a4 [.int i] [] (some (.int (zpop i))) [] := by
  refine zM_of (cc := cJ6_bitCount_0f7a4) (maxL := 1) (ret := (some .int)) (by decide) rfl (Nat.le_of_ble_eq_true rfl) ?_
  intro p e s m below meth c A Q hend hx hb hml hr hts hown hlk hG hK hP hD hA hS ls hl
  have hown : s.vm.findClass RJ6 = some m.cls := hown
  have hl : lv_has ls 1 [(0, .int i)] := hl
  refine lv_iload_n hx hb dJ6_bitCount_0f7a4_0 rfl (lv_at hl 0 rfl) ?_
  refine lv_iload_n hx hb dJ6_bitCount_0f7a4_1 rfl (lv_at hl 0 rfl) ?_
  refine lv_iconst (v := 1) hx hb dJ6_bitCount_0f7a4_2 (by decide) ?_
  refine lv_iushr (v := zus i 1) hx hb dJ6_bitCount_0f7a4_3 rfl ?_
  refine lv_ldcw hx hb hown (hts _ (List.mem_of_getElem? (i := 1) rfl)) dJ6_bitCount_0f7a4_4 ?_
  refine lv_iand hx hb dJ6_bitCount_0f7a4_7 ?_
  refine lv_isub hx hb dJ6_bitCount_0f7a4_8 ?_
  refine z_top (y := zp1 i) (rfl) ?_
  refine lv_istore_n (lv' := [(0, .int (zp1 i))]) hx hb dJ6_bitCount_0f7a4_9 rfl hl (by decide) rfl (fun ls hl => ?_)
  refine lv_iload_n hx hb dJ6_bitCount_0f7a4_10 rfl (lv_at hl 0 rfl) ?_
  refine lv_ldcw hx hb hown (hts _ (List.mem_of_getElem? (i := 2) rfl)) dJ6_bitCount_0f7a4_11 ?_
  refine lv_iand hx hb dJ6_bitCount_0f7a4_14 ?_
  refine lv_iload_n hx hb dJ6_bitCount_0f7a4_15 rfl (lv_at hl 0 rfl) ?_
  refine lv_iconst (v := 2) hx hb dJ6_bitCount_0f7a4_16 (by decide) ?_
  refine lv_iushr (v := zus (zp1 i) 2) hx hb dJ6_bitCount_0f7a4_17 rfl ?_
  refine lv_ldcw hx hb hown (hts _ (List.mem_of_getElem? (i := 2) rfl)) dJ6_bitCount_0f7a4_18 ?_
  refine lv_iand hx hb dJ6_bitCount_0f7a4_21 ?_
  refine lv_iadd hx hb dJ6_bitCount_0f7a4_22 ?_
  refine z_top (y := zp2 (zp1 i)) (rfl) ?_
  refine lv_istore_n (lv' := [(0, .int (zp2 (zp1 i)))]) hx hb dJ6_bitCount_0f7a4_23 rfl hl (by decide) rfl (fun ls hl => ?_)
  refine lv_iload_n hx hb dJ6_bitCount_0f7a4_24 rfl (lv_at hl 0 rfl) ?_
  refine lv_iload_n hx hb dJ6_bitCount_0f7a4_25 rfl (lv_at hl 0 rfl) ?_
  refine lv_iconst (v := 4) hx hb dJ6_bitCount_0f7a4_26 (by decide) ?_
  refine lv_iushr (v := zus (zp2 (zp1 i)) 4) hx hb dJ6_bitCount_0f7a4_27 rfl ?_
  refine lv_iadd hx hb dJ6_bitCount_0f7a4_28 ?_
  refine lv_ldcw hx hb hown (hts _ (List.mem_of_getElem? (i := 3) rfl)) dJ6_bitCount_0f7a4_29 ?_
  refine lv_iand hx hb dJ6_bitCount_0f7a4_32 ?_
  refine z_top (y := zp3 (zp2 (zp1 i))) (rfl) ?_
  refine lv_istore_n (lv' := [(0, .int (zp3 (zp2 (zp1 i))))]) hx hb dJ6_bitCount_0f7a4_33 rfl hl (by decide) rfl (fun ls hl => ?_)
  refine lv_iload_n hx hb dJ6_bitCount_0f7a4_34 rfl (lv_at hl 0 rfl) ?_
  refine lv_iload_n hx hb dJ6_bitCount_0f7a4_35 rfl (lv_at hl 0 rfl) ?_
  refine lv_bipush (v := 8) hx hb dJ6_bitCount_0f7a4_36 (by decide) ?_
  refine lv_iushr (v := zus (zp3 (zp2 (zp1 i))) 8) hx hb dJ6_bitCount_0f7a4_38 rfl ?_
  refine lv_iadd hx hb dJ6_bitCount_0f7a4_39 ?_
  refine z_top (y := zp4 (zp3 (zp2 (zp1 i)))) (rfl) ?_
  refine lv_istore_n (lv' := [(0, .int (zp4 (zp3 (zp2 (zp1 i)))))]) hx hb dJ6_bitCount_0f7a4_40 rfl hl (by decide) rfl (fun ls hl => ?_)
  refine lv_iload_n hx hb dJ6_bitCount_0f7a4_41 rfl (lv_at hl 0 rfl) ?_
  refine lv_iload_n hx hb dJ6_bitCount_0f7a4_42 rfl (lv_at hl 0 rfl) ?_
  refine lv_bipush (v := 16) hx hb dJ6_bitCount_0f7a4_43 (by decide) ?_
  refine lv_iushr (v := zus (zp4 (zp3 (zp2 (zp1 i)))) 16) hx hb dJ6_bitCount_0f7a4_45 rfl ?_
  refine lv_iadd hx hb dJ6_bitCount_0f7a4_46 ?_
  refine z_top (y := zp5 (zp4 (zp3 (zp2 (zp1 i))))) (rfl) ?_
  refine lv_istore_n (lv' := [(0, .int (zp5 (zp4 (zp3 (zp2 (zp1 i))))))]) hx hb dJ6_bitCount_0f7a4_47 rfl hl (by decide) rfl (fun ls hl => ?_)
  refine lv_iload_n hx hb dJ6_bitCount_0f7a4_48 rfl (lv_at hl 0 rfl) ?_
  refine lv_bipush (v := 63) hx hb dJ6_bitCount_0f7a4_49 (by decide) ?_
  refine lv_iand hx hb dJ6_bitCount_0f7a4_51 ?_
  exact ziret hend hx hb hr hlk hK hP hD hS dJ6_bitCount_0f7a4_52 rfl rfl

abbrev rmX0_works : Room := { frames := 1, cells := 0, slots := 0, locals := 21 }
set_option maxHeartbeats 4000000 in
set_option maxRecDepth 100000 in
theorem c_X0_works {G : zG} (hg : zGN G) (l : Launch) (D : va_G) (cy : Nat → ClassId) (h0 : Nat) (l0 : Nat) (g0 : Nat) (lo : Nat → Int32) (ag : Nat → Int32) (wk : Int32) (hd : Int32) (k : Nat) (hk : k < 24) : zM G D vwCl (zT cy) l yX0_works wsX0_works rmX0_works [.ref h0, .int (nI k)] [(h0, .inr (4, [.ref l0, .ref g0, .int wk, .int hd])), (l0, .inl (cy 0, 24, .inl lo)), (g0, .inl (cy 0, 24, .inl ag))] (some (.int (zI (zb wk (nI k))))) [(h0, .inr (4, [.ref l0, .ref g0, .int wk, .int hd])), (l0, .inl (cy 0, 24, .inl lo)), (g0, .inl (cy 0, 24, .inl ag))] := by
  refine zM_of (cc := cX0_works) (maxL := 2) (ret := (some .boolean)) (by decide) rfl (Nat.le_of_ble_eq_true rfl) ?_
  intro p e s m below meth c A Q hend hx hb hml hr hts hown hlk hG hK hP hD hA hS ls hl
  have hown : s.vm.findClass RX0 = some m.cls := hown
  have in_RX0 : ∀ w ∈ u_ws RX0 TX0 4, w ∈ wsX0_works := by decide +kernel
  have hl : lv_has ls 2 [(0, .ref h0), (1, .int (nI k))] := hl
  refine lv_aload_n hx hb dX0_works_0 rfl (lv_at hl 0 rfl) ?_
  refine va_get (D := D) (ci := 4) (v := .int wk) (C := RX0) (T := TX0) (N := 4) hx hb hts in_RX0 hown hK hP 0 rfl rfl 2 (by decide) (hts _ (List.mem_of_getElem? (i := 1) rfl)) (fun _ h9 => h9) rfl dX0_works_1 ?_
  refine lv_iload_n hx hb dX0_works_4 rfl (lv_at hl 1 rfl) ?_
  refine zcSN (As := [.int wk, .int (nI k)]) (rest := []) [] hg.1 ⟨hx, hb, hml, hown, hts⟩ (c_X5_hasBit hg l D cy wk (nI k)) ⟨va_cnB 2 hts ggX0_works_X5_hasBit rfl rfl rfl ((hg.2 A s hG).1) (hts _ (List.mem_of_getElem? (i := 3) rfl)) (by decide +kernel) ⟨Nat.le_of_ble_eq_true rfl, Nat.le_of_ble_eq_true rfl⟩, hts _ (List.mem_of_getElem? (i := 2) rfl), trivial⟩ hG hK hP hD hS hA rfl rfl rfl  rfl hl.1 rfl (Nat.le_of_ble_eq_true rfl) dX0_works_5 ⟨Nat.zero_le _, Nat.zero_le _⟩ (fun H locs hP hD hS => ?_)
  have hP : va_P D vwCl [(h0, .inr (4, [.ref l0, .ref g0, .int wk, .int hd])), (l0, .inl (cy 0, 24, .inl lo)), (g0, .inl (cy 0, 24, .inl ag))] H := hP
  have hD : va_D A [(h0, .inr (4, [.ref l0, .ref g0, .int wk, .int hd])), (l0, .inl (cy 0, 24, .inl lo)), (g0, .inl (cy 0, 24, .inl ag))] := hD
  exact zzret hend hx hb hr hlk hK hP hD hS dX0_works_8 (zI_nar _) rfl rfl

abbrev rmX0_isHeld : Room := { frames := 1, cells := 0, slots := 0, locals := 21 }
set_option maxHeartbeats 4000000 in
set_option maxRecDepth 100000 in
theorem c_X0_isHeld {G : zG} (hg : zGN G) (l : Launch) (D : va_G) (cy : Nat → ClassId) (h0 : Nat) (l0 : Nat) (g0 : Nat) (lo : Nat → Int32) (ag : Nat → Int32) (wk : Int32) (hd : Int32) (k : Nat) (hk : k < 24) : zM G D vwCl (zT cy) l yX0_isHeld wsX0_isHeld rmX0_isHeld [.ref h0, .int (nI k)] [(h0, .inr (4, [.ref l0, .ref g0, .int wk, .int hd])), (l0, .inl (cy 0, 24, .inl lo)), (g0, .inl (cy 0, 24, .inl ag))] (some (.int (zI (zb hd (nI k))))) [(h0, .inr (4, [.ref l0, .ref g0, .int wk, .int hd])), (l0, .inl (cy 0, 24, .inl lo)), (g0, .inl (cy 0, 24, .inl ag))] := by
  refine zM_of (cc := cX0_isHeld) (maxL := 2) (ret := (some .boolean)) (by decide) rfl (Nat.le_of_ble_eq_true rfl) ?_
  intro p e s m below meth c A Q hend hx hb hml hr hts hown hlk hG hK hP hD hA hS ls hl
  have hown : s.vm.findClass RX0 = some m.cls := hown
  have in_RX0 : ∀ w ∈ u_ws RX0 TX0 4, w ∈ wsX0_isHeld := by decide +kernel
  have hl : lv_has ls 2 [(0, .ref h0), (1, .int (nI k))] := hl
  refine lv_aload_n hx hb dX0_isHeld_0 rfl (lv_at hl 0 rfl) ?_
  refine va_get (D := D) (ci := 4) (v := .int hd) (C := RX0) (T := TX0) (N := 4) hx hb hts in_RX0 hown hK hP 0 rfl rfl 3 (by decide) (hts _ (List.mem_of_getElem? (i := 1) rfl)) (fun _ h9 => h9) rfl dX0_isHeld_1 ?_
  refine lv_iload_n hx hb dX0_isHeld_4 rfl (lv_at hl 1 rfl) ?_
  refine zcSN (As := [.int hd, .int (nI k)]) (rest := []) [] hg.1 ⟨hx, hb, hml, hown, hts⟩ (c_X5_hasBit hg l D cy hd (nI k)) ⟨va_cnB 2 hts ggX0_isHeld_X5_hasBit rfl rfl rfl ((hg.2 A s hG).1) (hts _ (List.mem_of_getElem? (i := 3) rfl)) (by decide +kernel) ⟨Nat.le_of_ble_eq_true rfl, Nat.le_of_ble_eq_true rfl⟩, hts _ (List.mem_of_getElem? (i := 2) rfl), trivial⟩ hG hK hP hD hS hA rfl rfl rfl  rfl hl.1 rfl (Nat.le_of_ble_eq_true rfl) dX0_isHeld_5 ⟨Nat.zero_le _, Nat.zero_le _⟩ (fun H locs hP hD hS => ?_)
  have hP : va_P D vwCl [(h0, .inr (4, [.ref l0, .ref g0, .int wk, .int hd])), (l0, .inl (cy 0, 24, .inl lo)), (g0, .inl (cy 0, 24, .inl ag))] H := hP
  have hD : va_D A [(h0, .inr (4, [.ref l0, .ref g0, .int wk, .int hd])), (l0, .inl (cy 0, 24, .inl lo)), (g0, .inl (cy 0, 24, .inl ag))] := hD
  exact zzret hend hx hb hr hlk hK hP hD hS dX0_isHeld_8 (zI_nar _) rfl rfl

abbrev rmX0_countInWork : Room := { frames := 1, cells := 0, slots := 0, locals := 20 }
set_option maxHeartbeats 4000000 in
set_option maxRecDepth 100000 in
theorem c_X0_countInWork {G : zG} (hg : zGN G) (l : Launch) (D : va_G) (cy : Nat → ClassId) (h0 : Nat) (l0 : Nat) (g0 : Nat) (lo : Nat → Int32) (ag : Nat → Int32) (wk : Int32) (hd : Int32) : zM G D vwCl (zT cy) l yX0_countInWork wsX0_countInWork rmX0_countInWork [.ref h0] [(h0, .inr (4, [.ref l0, .ref g0, .int wk, .int hd])), (l0, .inl (cy 0, 24, .inl lo)), (g0, .inl (cy 0, 24, .inl ag))] (some (.int (zpop wk))) [(h0, .inr (4, [.ref l0, .ref g0, .int wk, .int hd])), (l0, .inl (cy 0, 24, .inl lo)), (g0, .inl (cy 0, 24, .inl ag))] := by
  refine zM_of (cc := cX0_countInWork) (maxL := 1) (ret := (some .int)) (by decide) rfl (Nat.le_of_ble_eq_true rfl) ?_
  intro p e s m below meth c A Q hend hx hb hml hr hts hown hlk hG hK hP hD hA hS ls hl
  have hown : s.vm.findClass RX0 = some m.cls := hown
  have in_RX0 : ∀ w ∈ u_ws RX0 TX0 4, w ∈ wsX0_countInWork := by decide +kernel
  have hl : lv_has ls 1 [(0, .ref h0)] := hl
  refine lv_aload_n hx hb dX0_countInWork_0 rfl (lv_at hl 0 rfl) ?_
  refine va_get (D := D) (ci := 4) (v := .int wk) (C := RX0) (T := TX0) (N := 4) hx hb hts in_RX0 hown hK hP 0 rfl rfl 2 (by decide) (hts _ (List.mem_of_getElem? (i := 1) rfl)) (fun _ h9 => h9) rfl dX0_countInWork_1 ?_
  refine zcS (As := [.int wk]) (rest := []) [] hg.1 ⟨hx, hb, hml, hown, hts⟩ (c_J6_bitCount_0f7a4 hg l D cy wk) (va_cwS 1 hts gX0_countInWork_J6_bitCount_0f7a4 rfl rfl rfl (by decide +kernel) ⟨Nat.le_of_ble_eq_true rfl, Nat.le_of_ble_eq_true rfl⟩) hG hK hP hD hS hA rfl rfl rfl  rfl hl.1 rfl (Nat.le_of_ble_eq_true rfl) dX0_countInWork_4 ⟨Nat.zero_le _, Nat.zero_le _⟩ (fun H locs hP hD hS => ?_)
  have hP : va_P D vwCl [(h0, .inr (4, [.ref l0, .ref g0, .int wk, .int hd])), (l0, .inl (cy 0, 24, .inl lo)), (g0, .inl (cy 0, 24, .inl ag))] H := hP
  have hD : va_D A [(h0, .inr (4, [.ref l0, .ref g0, .int wk, .int hd])), (l0, .inl (cy 0, 24, .inl lo)), (g0, .inl (cy 0, 24, .inl ag))] := hD
  exact ziret hend hx hb hr hlk hK hP hD hS dX0_countInWork_7 rfl rfl

abbrev rmX0_countHeld : Room := { frames := 1, cells := 0, slots := 0, locals := 20 }
set_option maxHeartbeats 4000000 in
set_option maxRecDepth 100000 in
theorem c_X0_countHeld {G : zG} (hg : zGN G) (l : Launch) (D : va_G) (cy : Nat → ClassId) (h0 : Nat) (l0 : Nat) (g0 : Nat) (lo : Nat → Int32) (ag : Nat → Int32) (wk : Int32) (hd : Int32) : zM G D vwCl (zT cy) l yX0_countHeld wsX0_countHeld rmX0_countHeld [.ref h0] [(h0, .inr (4, [.ref l0, .ref g0, .int wk, .int hd])), (l0, .inl (cy 0, 24, .inl lo)), (g0, .inl (cy 0, 24, .inl ag))] (some (.int (zpop hd))) [(h0, .inr (4, [.ref l0, .ref g0, .int wk, .int hd])), (l0, .inl (cy 0, 24, .inl lo)), (g0, .inl (cy 0, 24, .inl ag))] := by
  refine zM_of (cc := cX0_countHeld) (maxL := 1) (ret := (some .int)) (by decide) rfl (Nat.le_of_ble_eq_true rfl) ?_
  intro p e s m below meth c A Q hend hx hb hml hr hts hown hlk hG hK hP hD hA hS ls hl
  have hown : s.vm.findClass RX0 = some m.cls := hown
  have in_RX0 : ∀ w ∈ u_ws RX0 TX0 4, w ∈ wsX0_countHeld := by decide +kernel
  have hl : lv_has ls 1 [(0, .ref h0)] := hl
  refine lv_aload_n hx hb dX0_countHeld_0 rfl (lv_at hl 0 rfl) ?_
  refine va_get (D := D) (ci := 4) (v := .int hd) (C := RX0) (T := TX0) (N := 4) hx hb hts in_RX0 hown hK hP 0 rfl rfl 3 (by decide) (hts _ (List.mem_of_getElem? (i := 1) rfl)) (fun _ h9 => h9) rfl dX0_countHeld_1 ?_
  refine zcS (As := [.int hd]) (rest := []) [] hg.1 ⟨hx, hb, hml, hown, hts⟩ (c_J6_bitCount_0f7a4 hg l D cy hd) (va_cwS 1 hts gX0_countHeld_J6_bitCount_0f7a4 rfl rfl rfl (by decide +kernel) ⟨Nat.le_of_ble_eq_true rfl, Nat.le_of_ble_eq_true rfl⟩) hG hK hP hD hS hA rfl rfl rfl  rfl hl.1 rfl (Nat.le_of_ble_eq_true rfl) dX0_countHeld_4 ⟨Nat.zero_le _, Nat.zero_le _⟩ (fun H locs hP hD hS => ?_)
  have hP : va_P D vwCl [(h0, .inr (4, [.ref l0, .ref g0, .int wk, .int hd])), (l0, .inl (cy 0, 24, .inl lo)), (g0, .inl (cy 0, 24, .inl ag))] H := hP
  have hD : va_D A [(h0, .inr (4, [.ref l0, .ref g0, .int wk, .int hd])), (l0, .inl (cy 0, 24, .inl lo)), (g0, .inl (cy 0, 24, .inl ag))] := hD
  exact ziret hend hx hb hr hlk hK hP hD hS dX0_countHeld_7 rfl rfl

abbrev rmX0_countLoops : Room := { frames := 0, cells := 0, slots := 0, locals := 0 }
set_option maxHeartbeats 4000000 in
set_option maxRecDepth 100000 in
theorem c_X0_countLoops {G : zG} (hg : zGN G) (l : Launch) (D : va_G) (cy : Nat → ClassId) (h0 : Nat) (l0 : Nat) (g0 : Nat) (lo : Nat → Int32) (ag : Nat → Int32) (wk : Int32) (hd : Int32) : zM G D vwCl (zT cy) l yX0_countLoops wsX0_countLoops rmX0_countLoops [.ref h0] [(h0, .inr (4, [.ref l0, .ref g0, .int wk, .int hd])), (l0, .inl (cy 0, 24, .inl lo)), (g0, .inl (cy 0, 24, .inl ag))] (some (.int (zsum lo 24))) [(h0, .inr (4, [.ref l0, .ref g0, .int wk, .int hd])), (l0, .inl (cy 0, 24, .inl lo)), (g0, .inl (cy 0, 24, .inl ag))] := by
  refine zM_of (cc := cX0_countLoops) (maxL := 3) (ret := (some .int)) (by decide) rfl (Nat.le_of_ble_eq_true rfl) ?_
  intro p e s m below meth c A Q hend hx hb hml hr hts hown hlk hG hK hP hD hA hS ls hl
  have hown : s.vm.findClass RX0 = some m.cls := hown
  have in_RX0 : ∀ w ∈ u_ws RX0 TX0 4, w ∈ wsX0_countLoops := by decide +kernel
  have hl : lv_has ls 3 [(0, .ref h0)] := hl
  refine lv_iconst (v := 0) hx hb dX0_countLoops_0 (by decide) ?_
  refine lv_istore_n (lv' := [(1, .int 0), (0, .ref h0)]) hx hb dX0_countLoops_1 rfl hl (by decide) rfl (fun ls hl => ?_)
  refine lv_iconst (v := 0) hx hb dX0_countLoops_2 (by decide) ?_
  refine lv_istore_n (lv' := [(2, .int 0), (1, .int 0), (0, .ref h0)]) hx hb dX0_countLoops_3 rfl hl (by decide) rfl (fun ls hl => ?_)
  have L4 : ∀ (F : Nat) (k : Nat) (x4_0 : Int32), k ≤ 24 → 24 - k < F → x4_0 = zsum lo k → ∀ (H : Heap) (locs : List Loc), va_P D vwCl [(h0, .inr (4, [.ref l0, .ref g0, .int wk, .int hd])), (l0, .inl (cy 0, 24, .inl lo)), (g0, .inl (cy 0, 24, .inl ag))] H → va_D A [(h0, .inr (4, [.ref l0, .ref g0, .int wk, .int hd])), (l0, .inl (cy 0, 24, .inl lo)), (g0, .inl (cy 0, 24, .inl ag))] → va_S A s.heap H locs → ∀ ls : Array Slot, lv_has ls 3 [(0, .ref h0), (1, .int x4_0), (2, .int (nI k))] → W p l e rmX0_countLoops s m ([.ref h0] : List Value).toArray below meth c H locs 0 0 Q (F0 m 4 ls []) := by
    intro F
    induction F with
    | zero =>
      intro k x4_0 hk hF ex4_0 H locs hP hD hS ls hl
      exact absurd hF (Nat.not_lt_zero _)
    | succ F ih4 =>
      intro k x4_0 hk hF ex4_0 H locs hP hD hS ls hl
      subst ex4_0
      refine lv_iload_n hx hb dX0_countLoops_4 rfl (lv_at hl 2 rfl) ?_
      refine lv_bipush (v := 24) hx hb dX0_countLoops_5 (by decide) ?_
      refine lv_icmp_ge (tgt := 25) hx hb dX0_countLoops_7 (by decide) (fun c_1 => ?_) (fun c_1 => ?_)
      · have hk2 : 24 ≤ k := (nI_leI (by omega) (by omega)).mp c_1
        obtain rfl : 24 = k := by omega
        refine lv_iload_n hx hb dX0_countLoops_25 rfl (lv_at hl 1 rfl) ?_
        exact ziret hend hx hb hr hlk hK hP hD hS dX0_countLoops_26 rfl rfl
      · have hk2 : k < 24 := Nat.lt_of_not_le (fun z => c_1 (nI_le z (by omega)))
        refine lv_iload_n hx hb dX0_countLoops_10 rfl (lv_at hl 1 rfl) ?_
        refine lv_aload_n hx hb dX0_countLoops_11 rfl (lv_at hl 0 rfl) ?_
        refine va_get (D := D) (ci := 4) (v := .ref l0) (C := RX0) (T := TX0) (N := 4) hx hb hts in_RX0 hown hK hP 0 rfl rfl 0 (by decide) (hts _ (List.mem_of_getElem? (i := 1) rfl)) (fun _ h9 => h9) rfl dX0_countLoops_12 ?_
        refine lv_iload_n hx hb dX0_countLoops_15 rfl (lv_at hl 2 rfl) ?_
        refine ziald 1 0 k hx hb hK hP rfl rfl (by omega) (z_lt rfl) dX0_countLoops_16 ?_
        refine lv_iadd hx hb dX0_countLoops_17 ?_
        refine lv_istore_n (lv' := [(1, .int ((zsum lo k) + (lo k))), (0, .ref h0), (2, .int (nI k))]) hx hb dX0_countLoops_18 rfl hl (by decide) rfl (fun ls hl => ?_)
        refine lv_iinc (v := nI (k + 1)) (lv' := [(2, .int (nI (k + 1))), (1, .int ((zsum lo k) + (lo k))), (0, .ref h0)]) hx hb dX0_countLoops_19 hl (k := 2) rfl (by rw [show Int32.ofInt 1 = nI 1 from rfl, nI_add]) (by decide) rfl (fun ls hl => ?_)
        refine lv_goto (tgt := 4) hx hb dX0_countLoops_22 (by decide) ?_
        exact ih4 (k + 1) ((zsum lo k) + (lo k)) (by omega) (by omega) (by rfl) H locs hP hD hS ls (lv_sub hl [2, 1, 0] rfl)
  exact L4 (24 - 0 + 1) 0 0 (by omega) (Nat.lt_succ_self _) (by rfl) s.heap [] hP hD hS ls (lv_sub hl [2, 1, 0] rfl)

abbrev rmX0_loopMask : Room := { frames := 0, cells := 0, slots := 0, locals := 0 }
set_option maxHeartbeats 4000000 in
set_option maxRecDepth 100000 in
theorem c_X0_loopMask {G : zG} (hg : zGN G) (l : Launch) (D : va_G) (cy : Nat → ClassId) (h0 : Nat) (l0 : Nat) (g0 : Nat) (lo : Nat → Int32) (ag : Nat → Int32) (wk : Int32) (hd : Int32) : zM G D vwCl (zT cy) l yX0_loopMask wsX0_loopMask rmX0_loopMask [.ref h0] [(h0, .inr (4, [.ref l0, .ref g0, .int wk, .int hd])), (l0, .inl (cy 0, 24, .inl lo)), (g0, .inl (cy 0, 24, .inl ag))] (some (.int (zlm lo 24))) [(h0, .inr (4, [.ref l0, .ref g0, .int wk, .int hd])), (l0, .inl (cy 0, 24, .inl lo)), (g0, .inl (cy 0, 24, .inl ag))] := by
  refine zM_of (cc := cX0_loopMask) (maxL := 3) (ret := (some .int)) (by decide) rfl (Nat.le_of_ble_eq_true rfl) ?_
  intro p e s m below meth c A Q hend hx hb hml hr hts hown hlk hG hK hP hD hA hS ls hl
  have hown : s.vm.findClass RX0 = some m.cls := hown
  have in_RX0 : ∀ w ∈ u_ws RX0 TX0 4, w ∈ wsX0_loopMask := by decide +kernel
  have hl : lv_has ls 3 [(0, .ref h0)] := hl
  refine lv_iconst (v := 0) hx hb dX0_loopMask_0 (by decide) ?_
  refine lv_istore_n (lv' := [(1, .int 0), (0, .ref h0)]) hx hb dX0_loopMask_1 rfl hl (by decide) rfl (fun ls hl => ?_)
  refine lv_iconst (v := 0) hx hb dX0_loopMask_2 (by decide) ?_
  refine lv_istore_n (lv' := [(2, .int 0), (1, .int 0), (0, .ref h0)]) hx hb dX0_loopMask_3 rfl hl (by decide) rfl (fun ls hl => ?_)
  have L4 : ∀ (F : Nat) (k : Nat) (x4_0 : Int32), k ≤ 24 → 24 - k < F → x4_0 = zlm lo k → ∀ (H : Heap) (locs : List Loc), va_P D vwCl [(h0, .inr (4, [.ref l0, .ref g0, .int wk, .int hd])), (l0, .inl (cy 0, 24, .inl lo)), (g0, .inl (cy 0, 24, .inl ag))] H → va_D A [(h0, .inr (4, [.ref l0, .ref g0, .int wk, .int hd])), (l0, .inl (cy 0, 24, .inl lo)), (g0, .inl (cy 0, 24, .inl ag))] → va_S A s.heap H locs → ∀ ls : Array Slot, lv_has ls 3 [(0, .ref h0), (1, .int x4_0), (2, .int (nI k))] → W p l e rmX0_loopMask s m ([.ref h0] : List Value).toArray below meth c H locs 0 0 Q (F0 m 4 ls []) := by
    intro F
    induction F with
    | zero =>
      intro k x4_0 hk hF ex4_0 H locs hP hD hS ls hl
      exact absurd hF (Nat.not_lt_zero _)
    | succ F ih4 =>
      intro k x4_0 hk hF ex4_0 H locs hP hD hS ls hl
      subst ex4_0
      refine lv_iload_n hx hb dX0_loopMask_4 rfl (lv_at hl 2 rfl) ?_
      refine lv_bipush (v := 24) hx hb dX0_loopMask_5 (by decide) ?_
      refine lv_icmp_ge (tgt := 31) hx hb dX0_loopMask_7 (by decide) (fun c_1 => ?_) (fun c_1 => ?_)
      · have hk2 : 24 ≤ k := (nI_leI (by omega) (by omega)).mp c_1
        obtain rfl : 24 = k := by omega
        refine lv_iload_n hx hb dX0_loopMask_31 rfl (lv_at hl 1 rfl) ?_
        exact ziret hend hx hb hr hlk hK hP hD hS dX0_loopMask_32 rfl rfl
      · have hk2 : k < 24 := Nat.lt_of_not_le (fun z => c_1 (nI_le z (by omega)))
        refine lv_aload_n hx hb dX0_loopMask_10 rfl (lv_at hl 0 rfl) ?_
        refine va_get (D := D) (ci := 4) (v := .ref l0) (C := RX0) (T := TX0) (N := 4) hx hb hts in_RX0 hown hK hP 0 rfl rfl 0 (by decide) (hts _ (List.mem_of_getElem? (i := 1) rfl)) (fun _ h9 => h9) rfl dX0_loopMask_11 ?_
        refine lv_iload_n hx hb dX0_loopMask_14 rfl (lv_at hl 2 rfl) ?_
        refine ziald 1 0 k hx hb hK hP rfl rfl (by omega) (z_lt rfl) dX0_loopMask_15 ?_
        refine lv_if_le (tgt := 25) hx hb dX0_loopMask_16 (by decide) (fun c_2 => ?_) (fun c_2 => ?_)
        · refine lv_iinc (v := nI (k + 1)) (lv' := [(2, .int (nI (k + 1))), (0, .ref h0), (1, .int (zlm lo k))]) hx hb dX0_loopMask_25 hl (k := 2) rfl (by rw [show Int32.ofInt 1 = nI 1 from rfl, nI_add]) (by decide) rfl (fun ls hl => ?_)
          refine lv_goto (tgt := 4) hx hb dX0_loopMask_28 (by decide) ?_
          exact ih4 (k + 1) (zlm lo k) (by omega) (by omega) (by first | (simp only [zlm, c_1, c_2, decide_true, decide_false, Bool.not_true, Bool.not_false, Bool.and_true, Bool.true_and, Bool.and_false, Bool.false_and, Bool.or_false, Bool.false_or, Bool.or_true, Bool.true_or, ↓reduceIte, Bool.false_eq_true, not_true_eq_false, not_false_eq_true, and_self]; done) | (simp [zlm, c_1, c_2]; done) | (simp_all [zlm]; done)) H locs hP hD hS ls (lv_sub hl [1, 2, 0] rfl)
        · refine lv_iload_n hx hb dX0_loopMask_19 rfl (lv_at hl 1 rfl) ?_
          refine lv_iconst (v := 1) hx hb dX0_loopMask_20 (by decide) ?_
          refine lv_iload_n hx hb dX0_loopMask_21 rfl (lv_at hl 2 rfl) ?_
          refine lv_ishl hx hb dX0_loopMask_22 ?_
          refine lv_ior hx hb dX0_loopMask_23 ?_
          refine lv_istore_n (lv' := [(1, .int ((zlm lo k) ||| (1 <<< ((nI k) &&& 31)))), (0, .ref h0), (2, .int (nI k))]) hx hb dX0_loopMask_24 rfl hl (by decide) rfl (fun ls hl => ?_)
          refine lv_iinc (v := nI (k + 1)) (lv' := [(2, .int (nI (k + 1))), (1, .int ((zlm lo k) ||| (1 <<< ((nI k) &&& 31)))), (0, .ref h0)]) hx hb dX0_loopMask_25 hl (k := 2) rfl (by rw [show Int32.ofInt 1 = nI 1 from rfl, nI_add]) (by decide) rfl (fun ls hl => ?_)
          refine lv_goto (tgt := 4) hx hb dX0_loopMask_28 (by decide) ?_
          exact ih4 (k + 1) ((zlm lo k) ||| (1 <<< ((nI k) &&& 31))) (by omega) (by omega) (by first | (simp only [zlm, c_1, c_2, decide_true, decide_false, Bool.not_true, Bool.not_false, Bool.and_true, Bool.true_and, Bool.and_false, Bool.false_and, Bool.or_false, Bool.false_or, Bool.or_true, Bool.true_or, ↓reduceIte, Bool.false_eq_true, not_true_eq_false, not_false_eq_true, and_self]; done) | (simp [zlm, c_1, c_2]; done) | (simp_all [zlm]; done)) H locs hP hD hS ls (lv_sub hl [2, 1, 0] rfl)
  exact L4 (24 - 0 + 1) 0 0 (by omega) (Nat.lt_succ_self _) (by rfl) s.heap [] hP hD hS ls (lv_sub hl [2, 1, 0] rfl)

abbrev rmX0_countEmpty : Room := { frames := 1, cells := 0, slots := 0, locals := 22 }
set_option maxHeartbeats 4000000 in
set_option maxRecDepth 100000 in
theorem c_X0_countEmpty {G : zG} (hg : zGN G) (l : Launch) (D : va_G) (cy : Nat → ClassId) (h0 : Nat) (l0 : Nat) (g0 : Nat) (lo : Nat → Int32) (ag : Nat → Int32) (wk : Int32) (hd : Int32) : zM G D vwCl (zT cy) l yX0_countEmpty wsX0_countEmpty rmX0_countEmpty [.ref h0] [(h0, .inr (4, [.ref l0, .ref g0, .int wk, .int hd])), (l0, .inl (cy 0, 24, .inl lo)), (g0, .inl (cy 0, 24, .inl ag))] (some (.int (zpop (wk &&& (zlm lo 24 ^^^ (-1)))))) [(h0, .inr (4, [.ref l0, .ref g0, .int wk, .int hd])), (l0, .inl (cy 0, 24, .inl lo)), (g0, .inl (cy 0, 24, .inl ag))] := by
  refine zM_of (cc := cX0_countEmpty) (maxL := 1) (ret := (some .int)) (by decide) rfl (Nat.le_of_ble_eq_true rfl) ?_
  intro p e s m below meth c A Q hend hx hb hml hr hts hown hlk hG hK hP hD hA hS ls hl
  have hown : s.vm.findClass RX0 = some m.cls := hown
  have in_RX0 : ∀ w ∈ u_ws RX0 TX0 4, w ∈ wsX0_countEmpty := by decide +kernel
  have hl : lv_has ls 1 [(0, .ref h0)] := hl
  refine lv_aload_n hx hb dX0_countEmpty_0 rfl (lv_at hl 0 rfl) ?_
  refine va_get (D := D) (ci := 4) (v := .int wk) (C := RX0) (T := TX0) (N := 4) hx hb hts in_RX0 hown hK hP 0 rfl rfl 2 (by decide) (hts _ (List.mem_of_getElem? (i := 1) rfl)) (fun _ h9 => h9) rfl dX0_countEmpty_1 ?_
  refine lv_aload_n hx hb dX0_countEmpty_4 rfl (lv_at hl 0 rfl) ?_
  refine zcV (As := []) (rest := [.int wk]) [0, 1, 2] 0 hg.1 ⟨hx, hb, hml, hown, hts⟩ (c_X0_loopMask hg l D cy h0 l0 g0 lo ag wk hd) (cwV 0 hts gX0_countEmpty_X0_loopMask rfl rfl rfl (by decide +kernel) ⟨Nat.le_of_ble_eq_true rfl, Nat.le_of_ble_eq_true rfl⟩) hG hK hP hD hS hA rfl rfl rfl rfl rfl rfl hl.1 rfl (Nat.le_of_ble_eq_true rfl) dX0_countEmpty_5 ⟨Nat.zero_le _, Nat.zero_le _⟩ (fun H locs hP hD hS => ?_)
  have hP : va_P D vwCl [(h0, .inr (4, [.ref l0, .ref g0, .int wk, .int hd])), (l0, .inl (cy 0, 24, .inl lo)), (g0, .inl (cy 0, 24, .inl ag))] H := hP
  have hD : va_D A [(h0, .inr (4, [.ref l0, .ref g0, .int wk, .int hd])), (l0, .inl (cy 0, 24, .inl lo)), (g0, .inl (cy 0, 24, .inl ag))] := hD
  refine lv_iconst (v := (-1)) hx hb dX0_countEmpty_8 (by decide) ?_
  refine lv_ixor hx hb dX0_countEmpty_9 ?_
  refine lv_iand hx hb dX0_countEmpty_10 ?_
  refine zcS (As := [.int (wk &&& ((zlm lo 24) ^^^ (-1)))]) (rest := []) [] hg.1 ⟨hx, hb, hml, hown, hts⟩ (c_J6_bitCount_0f7a4 hg l D cy (wk &&& ((zlm lo 24) ^^^ (-1)))) (va_cwS 1 hts gX0_countEmpty_J6_bitCount_0f7a4 rfl rfl rfl (by decide +kernel) ⟨Nat.le_of_ble_eq_true rfl, Nat.le_of_ble_eq_true rfl⟩) hG hK hP hD hS hA rfl rfl rfl  rfl hl.1 rfl (Nat.le_of_ble_eq_true rfl) dX0_countEmpty_11 ⟨Nat.zero_le _, Nat.zero_le _⟩ (fun H locs hP hD hS => ?_)
  have hP : va_P D vwCl [(h0, .inr (4, [.ref l0, .ref g0, .int wk, .int hd])), (l0, .inl (cy 0, 24, .inl lo)), (g0, .inl (cy 0, 24, .inl ag))] H := hP
  have hD : va_D A [(h0, .inr (4, [.ref l0, .ref g0, .int wk, .int hd])), (l0, .inl (cy 0, 24, .inl lo)), (g0, .inl (cy 0, 24, .inl ag))] := hD
  exact ziret hend hx hb hr hlk hK hP hD hS dX0_countEmpty_14 (by rfl) rfl

abbrev rmX0_firstInWork : Room := { frames := 2, cells := 0, slots := 0, locals := 42 }
set_option maxHeartbeats 4000000 in
set_option maxRecDepth 100000 in
theorem c_X0_firstInWork {G : zG} (hg : zGN G) (l : Launch) (D : va_G) (cy : Nat → ClassId) (h0 : Nat) (l0 : Nat) (g0 : Nat) (lo : Nat → Int32) (ag : Nat → Int32) (wk : Int32) (hd : Int32) (a : Nat) (b : Nat) (hab : a ≤ b) (hb24 : b < 24) : zM G D vwCl (zT cy) l yX0_firstInWork wsX0_firstInWork rmX0_firstInWork [.ref h0, .int (nI a), .int (nI b)] [(h0, .inr (4, [.ref l0, .ref g0, .int wk, .int hd])), (l0, .inl (cy 0, 24, .inl lo)), (g0, .inl (cy 0, 24, .inl ag))] (some (.int (zfi (fun j => zb wk (nI j)) (b + 1 - a) a))) [(h0, .inr (4, [.ref l0, .ref g0, .int wk, .int hd])), (l0, .inl (cy 0, 24, .inl lo)), (g0, .inl (cy 0, 24, .inl ag))] := by
  refine zM_of (cc := cX0_firstInWork) (maxL := 4) (ret := (some .int)) (by decide) rfl (Nat.le_of_ble_eq_true rfl) ?_
  intro p e s m below meth c A Q hend hx hb hml hr hts hown hlk hG hK hP hD hA hS ls hl
  have hown : s.vm.findClass RX0 = some m.cls := hown
  have hl : lv_has ls 4 [(0, .ref h0), (1, .int (nI a)), (2, .int (nI b))] := hl
  refine lv_iload_n hx hb dX0_firstInWork_0 rfl (lv_at hl 1 rfl) ?_
  refine lv_istore_n (lv' := [(3, .int (nI a)), (0, .ref h0), (1, .int (nI a)), (2, .int (nI b))]) hx hb dX0_firstInWork_1 rfl hl (by decide) rfl (fun ls hl => ?_)
  have L2 : ∀ (F : Nat) (k : Nat), k ≤ b + 1 → zfi (fun j => zb wk (nI j)) (b + 1 - a) a = zfi (fun j => zb wk (nI j)) (b + 1 - k) k → b + 1 - k < F → ∀ (H : Heap) (locs : List Loc), va_P D vwCl [(h0, .inr (4, [.ref l0, .ref g0, .int wk, .int hd])), (l0, .inl (cy 0, 24, .inl lo)), (g0, .inl (cy 0, 24, .inl ag))] H → va_D A [(h0, .inr (4, [.ref l0, .ref g0, .int wk, .int hd])), (l0, .inl (cy 0, 24, .inl lo)), (g0, .inl (cy 0, 24, .inl ag))] → va_S A s.heap H locs → ∀ ls : Array Slot, lv_has ls 4 [(0, .ref h0), (1, .int (nI a)), (2, .int (nI b)), (3, .int (nI k))] → W p l e rmX0_firstInWork s m ([.ref h0, .int (nI a), .int (nI b)] : List Value).toArray below meth c H locs 0 0 Q (F0 m 2 ls []) := by
    intro F
    induction F with
    | zero =>
      intro k hk hr2 hF H locs hP hD hS ls hl
      exact absurd hF (Nat.not_lt_zero _)
    | succ F ih2 =>
      intro k hk hr2 hF H locs hP hD hS ls hl
      refine lv_iload_n hx hb dX0_firstInWork_2 rfl (lv_at hl 3 rfl) ?_
      refine lv_iload_n hx hb dX0_firstInWork_3 rfl (lv_at hl 2 rfl) ?_
      refine lv_icmp_gt (tgt := 23) hx hb dX0_firstInWork_4 (by decide) (fun c_1 => ?_) (fun c_1 => ?_)
      · have hk2 : b < k := (nI_ltI (by omega) (by omega)).mp c_1
        obtain rfl : b + 1 = k := by omega
        refine lv_iconst (v := (-1)) hx hb dX0_firstInWork_23 (by decide) ?_
        exact ziret hend hx hb hr hlk hK hP hD hS dX0_firstInWork_24 (by first | (rw [hr2, show b + 1 - k = (b + 1 - (k + 1)) + 1 by omega, zfi]; simp [c_1]; done) | (rw [hr2, Nat.sub_self]; rfl)) rfl
      · have hk2 : k ≤ b := Nat.le_of_not_lt (fun z => c_1 ((nI_ltI (by omega) (by omega)).mpr z))
        refine lv_aload_n hx hb dX0_firstInWork_7 rfl (lv_at hl 0 rfl) ?_
        refine lv_iload_n hx hb dX0_firstInWork_8 rfl (lv_at hl 3 rfl) ?_
        refine zcV (As := [.int (nI k)]) (rest := []) [0, 1, 2] 0 hg.1 ⟨hx, hb, hml, hown, hts⟩ (c_X0_works hg l D cy h0 l0 g0 lo ag wk hd k (by first | assumption | omega)) (cwV 1 hts gX0_firstInWork_X0_works rfl rfl rfl (by decide +kernel) ⟨Nat.le_of_ble_eq_true rfl, Nat.le_of_ble_eq_true rfl⟩) hG hK hP hD hS hA rfl rfl rfl rfl rfl rfl hl.1 rfl (Nat.le_of_ble_eq_true rfl) dX0_firstInWork_9 ⟨Nat.zero_le _, Nat.zero_le _⟩ (fun H locs hP hD hS => ?_)
        have hP : va_P D vwCl [(h0, .inr (4, [.ref l0, .ref g0, .int wk, .int hd])), (l0, .inl (cy 0, 24, .inl lo)), (g0, .inl (cy 0, 24, .inl ag))] H := hP
        have hD : va_D A [(h0, .inr (4, [.ref l0, .ref g0, .int wk, .int hd])), (l0, .inl (cy 0, 24, .inl lo)), (g0, .inl (cy 0, 24, .inl ag))] := hD
        refine lv_if_eq (tgt := 17) hx hb dX0_firstInWork_12 (by decide) (fun c_2 => ?_) (fun c_2 => ?_)
        · replace c_2 := zI0 c_2
          refine lv_iinc (v := nI (k + 1)) (lv' := [(3, .int (nI (k + 1))), (0, .ref h0), (1, .int (nI a)), (2, .int (nI b))]) hx hb dX0_firstInWork_17 hl (k := 3) rfl (by rw [show Int32.ofInt 1 = nI 1 from rfl, nI_add]) (by decide) rfl (fun ls hl => ?_)
          refine lv_goto (tgt := 2) hx hb dX0_firstInWork_20 (by decide) ?_
          exact ih2 (k + 1) (by omega) (by rw [hr2, show b + 1 - k = (b + 1 - (k + 1)) + 1 by omega, zfi]; simp [c_1, c_2]) (by omega) H locs hP hD hS ls (lv_sub hl [1, 2, 3, 0] rfl)
        · replace c_2 := zI1 c_2
          refine lv_iload_n hx hb dX0_firstInWork_15 rfl (lv_at hl 3 rfl) ?_
          exact ziret hend hx hb hr hlk hK hP hD hS dX0_firstInWork_16 (by first | (rw [hr2, show b + 1 - k = (b + 1 - (k + 1)) + 1 by omega, zfi]; simp [c_1, c_2]; done) | (rw [hr2, Nat.sub_self]; rfl)) rfl
  exact L2 (b + 1 - a + 1) a (by omega) rfl (Nat.lt_succ_self _) s.heap [] hP hD hS ls (lv_sub hl [1, 2, 3, 0] rfl)

abbrev rmX0_firstEmptyFrom : Room := { frames := 2, cells := 0, slots := 0, locals := 42 }
set_option maxHeartbeats 4000000 in
set_option maxRecDepth 100000 in
theorem c_X0_firstEmptyFrom {G : zG} (hg : zGN G) (l : Launch) (D : va_G) (cy : Nat → ClassId) (h0 : Nat) (l0 : Nat) (g0 : Nat) (lo : Nat → Int32) (ag : Nat → Int32) (wk : Int32) (hd : Int32) (a : Nat) (ha : a < 24) : zM G D vwCl (zT cy) l yX0_firstEmptyFrom wsX0_firstEmptyFrom rmX0_firstEmptyFrom [.ref h0, .int (nI a)] [(h0, .inr (4, [.ref l0, .ref g0, .int wk, .int hd])), (l0, .inl (cy 0, 24, .inl lo)), (g0, .inl (cy 0, 24, .inl ag))] (some (.int (zfi (fun j => zb wk (nI j) && decide (lo j = 0)) (24 - a) a))) [(h0, .inr (4, [.ref l0, .ref g0, .int wk, .int hd])), (l0, .inl (cy 0, 24, .inl lo)), (g0, .inl (cy 0, 24, .inl ag))] := by
  refine zM_of (cc := cX0_firstEmptyFrom) (maxL := 3) (ret := (some .int)) (by decide) rfl (Nat.le_of_ble_eq_true rfl) ?_
  intro p e s m below meth c A Q hend hx hb hml hr hts hown hlk hG hK hP hD hA hS ls hl
  have hown : s.vm.findClass RX0 = some m.cls := hown
  have in_RX0 : ∀ w ∈ u_ws RX0 TX0 4, w ∈ wsX0_firstEmptyFrom := by decide +kernel
  have hl : lv_has ls 3 [(0, .ref h0), (1, .int (nI a))] := hl
  refine lv_iload_n hx hb dX0_firstEmptyFrom_0 rfl (lv_at hl 1 rfl) ?_
  refine lv_istore_n (lv' := [(2, .int (nI a)), (0, .ref h0), (1, .int (nI a))]) hx hb dX0_firstEmptyFrom_1 rfl hl (by decide) rfl (fun ls hl => ?_)
  have L2 : ∀ (F : Nat) (k : Nat), k ≤ 24 → zfi (fun j => zb wk (nI j) && decide (lo j = 0)) (24 - a) a = zfi (fun j => zb wk (nI j) && decide (lo j = 0)) (24 - k) k → 24 - k < F → ∀ (H : Heap) (locs : List Loc), va_P D vwCl [(h0, .inr (4, [.ref l0, .ref g0, .int wk, .int hd])), (l0, .inl (cy 0, 24, .inl lo)), (g0, .inl (cy 0, 24, .inl ag))] H → va_D A [(h0, .inr (4, [.ref l0, .ref g0, .int wk, .int hd])), (l0, .inl (cy 0, 24, .inl lo)), (g0, .inl (cy 0, 24, .inl ag))] → va_S A s.heap H locs → ∀ ls : Array Slot, lv_has ls 3 [(0, .ref h0), (1, .int (nI a)), (2, .int (nI k))] → W p l e rmX0_firstEmptyFrom s m ([.ref h0, .int (nI a)] : List Value).toArray below meth c H locs 0 0 Q (F0 m 2 ls []) := by
    intro F
    induction F with
    | zero =>
      intro k hk hr2 hF H locs hP hD hS ls hl
      exact absurd hF (Nat.not_lt_zero _)
    | succ F ih2 =>
      intro k hk hr2 hF H locs hP hD hS ls hl
      refine lv_iload_n hx hb dX0_firstEmptyFrom_2 rfl (lv_at hl 2 rfl) ?_
      refine lv_bipush (v := 24) hx hb dX0_firstEmptyFrom_3 (by decide) ?_
      refine lv_icmp_ge (tgt := 33) hx hb dX0_firstEmptyFrom_5 (by decide) (fun c_1 => ?_) (fun c_1 => ?_)
      · have hk2 : 24 ≤ k := (nI_leI (by omega) (by omega)).mp c_1
        obtain rfl : 24 = k := by omega
        refine lv_iconst (v := (-1)) hx hb dX0_firstEmptyFrom_33 (by decide) ?_
        exact ziret hend hx hb hr hlk hK hP hD hS dX0_firstEmptyFrom_34 (by first | (rw [hr2, show 24 - k = (24 - (k + 1)) + 1 by omega, zfi]; simp [c_1]; done) | (rw [hr2, Nat.sub_self]; rfl)) rfl
      · have hk2 : k < 24 := Nat.lt_of_not_le (fun z => c_1 (nI_le z (by omega)))
        refine lv_aload_n hx hb dX0_firstEmptyFrom_8 rfl (lv_at hl 0 rfl) ?_
        refine lv_iload_n hx hb dX0_firstEmptyFrom_9 rfl (lv_at hl 2 rfl) ?_
        refine zcV (As := [.int (nI k)]) (rest := []) [0, 1, 2] 0 hg.1 ⟨hx, hb, hml, hown, hts⟩ (c_X0_works hg l D cy h0 l0 g0 lo ag wk hd k (by first | assumption | omega)) (cwV 1 hts gX0_firstEmptyFrom_X0_works rfl rfl rfl (by decide +kernel) ⟨Nat.le_of_ble_eq_true rfl, Nat.le_of_ble_eq_true rfl⟩) hG hK hP hD hS hA rfl rfl rfl rfl rfl rfl hl.1 rfl (Nat.le_of_ble_eq_true rfl) dX0_firstEmptyFrom_10 ⟨Nat.zero_le _, Nat.zero_le _⟩ (fun H locs hP hD hS => ?_)
        have hP : va_P D vwCl [(h0, .inr (4, [.ref l0, .ref g0, .int wk, .int hd])), (l0, .inl (cy 0, 24, .inl lo)), (g0, .inl (cy 0, 24, .inl ag))] H := hP
        have hD : va_D A [(h0, .inr (4, [.ref l0, .ref g0, .int wk, .int hd])), (l0, .inl (cy 0, 24, .inl lo)), (g0, .inl (cy 0, 24, .inl ag))] := hD
        refine lv_if_eq (tgt := 27) hx hb dX0_firstEmptyFrom_13 (by decide) (fun c_2 => ?_) (fun c_2 => ?_)
        · replace c_2 := zI0 c_2
          refine lv_iinc (v := nI (k + 1)) (lv' := [(2, .int (nI (k + 1))), (0, .ref h0), (1, .int (nI a))]) hx hb dX0_firstEmptyFrom_27 hl (k := 2) rfl (by rw [show Int32.ofInt 1 = nI 1 from rfl, nI_add]) (by decide) rfl (fun ls hl => ?_)
          refine lv_goto (tgt := 2) hx hb dX0_firstEmptyFrom_30 (by decide) ?_
          exact ih2 (k + 1) (by omega) (by rw [hr2, show 24 - k = (24 - (k + 1)) + 1 by omega, zfi]; simp [c_1, c_2]) (by omega) H locs hP hD hS ls (lv_sub hl [1, 2, 0] rfl)
        · replace c_2 := zI1 c_2
          refine lv_aload_n hx hb dX0_firstEmptyFrom_16 rfl (lv_at hl 0 rfl) ?_
          refine va_get (D := D) (ci := 4) (v := .ref l0) (C := RX0) (T := TX0) (N := 4) hx hb hts in_RX0 hown hK hP 0 rfl rfl 0 (by decide) (hts _ (List.mem_of_getElem? (i := 1) rfl)) (fun _ h9 => h9) rfl dX0_firstEmptyFrom_17 ?_
          refine lv_iload_n hx hb dX0_firstEmptyFrom_20 rfl (lv_at hl 2 rfl) ?_
          refine ziald 1 0 k hx hb hK hP rfl rfl (by omega) (z_lt rfl) dX0_firstEmptyFrom_21 ?_
          refine lv_if_ne (tgt := 27) hx hb dX0_firstEmptyFrom_22 (by decide) (fun c_3 => ?_) (fun c_3 => ?_)
          · refine lv_iinc (v := nI (k + 1)) (lv' := [(2, .int (nI (k + 1))), (0, .ref h0), (1, .int (nI a))]) hx hb dX0_firstEmptyFrom_27 hl (k := 2) rfl (by rw [show Int32.ofInt 1 = nI 1 from rfl, nI_add]) (by decide) rfl (fun ls hl => ?_)
            refine lv_goto (tgt := 2) hx hb dX0_firstEmptyFrom_30 (by decide) ?_
            exact ih2 (k + 1) (by omega) (by rw [hr2, show 24 - k = (24 - (k + 1)) + 1 by omega, zfi]; simp [c_1, c_2, c_3]) (by omega) H locs hP hD hS ls (lv_sub hl [1, 2, 0] rfl)
          · refine lv_iload_n hx hb dX0_firstEmptyFrom_25 rfl (lv_at hl 2 rfl) ?_
            exact ziret hend hx hb hr hlk hK hP hD hS dX0_firstEmptyFrom_26 (by first | (rw [hr2, show 24 - k = (24 - (k + 1)) + 1 by omega, zfi]; simp [c_1, c_2, c_3]; done) | (rw [hr2, Nat.sub_self]; rfl)) rfl
  exact L2 (24 - a + 1) a (by omega) rfl (Nat.lt_succ_self _) s.heap [] hP hD hS ls (lv_sub hl [1, 2, 0] rfl)

abbrev rmX0_runByWalking : Room := { frames := 1, cells := 0, slots := 0, locals := 21 }
set_option maxHeartbeats 4000000 in
set_option maxRecDepth 100000 in
theorem c_X0_runByWalking {G : zG} (hg : zGN G) (l : Launch) (D : va_G) (cy : Nat → ClassId) (h0 : Nat) (l0 : Nat) (g0 : Nat) (lo : Nat → Int32) (ag : Nat → Int32) (wk : Int32) (hd : Int32) : zM G D vwCl (zT cy) l yX0_runByWalking wsX0_runByWalking rmX0_runByWalking [.ref h0] [(h0, .inr (4, [.ref l0, .ref g0, .int wk, .int hd])), (l0, .inl (cy 0, 24, .inl lo)), (g0, .inl (cy 0, 24, .inl ag))] (some (.int (zrl lo 24))) [(h0, .inr (4, [.ref l0, .ref g0, .int wk, .int hd])), (l0, .inl (cy 0, 24, .inl lo)), (g0, .inl (cy 0, 24, .inl ag))] := by
  refine zM_of (cc := cX0_runByWalking) (maxL := 4) (ret := (some .int)) (by decide) rfl (Nat.le_of_ble_eq_true rfl) ?_
  intro p e s m below meth c A Q hend hx hb hml hr hts hown hlk hG hK hP hD hA hS ls hl
  have hown : s.vm.findClass RX0 = some m.cls := hown
  have in_RX0 : ∀ w ∈ u_ws RX0 TX0 4, w ∈ wsX0_runByWalking := by decide +kernel
  have hl : lv_has ls 4 [(0, .ref h0)] := hl
  refine lv_iconst (v := 0) hx hb dX0_runByWalking_0 (by decide) ?_
  refine lv_istore_n (lv' := [(1, .int 0), (0, .ref h0)]) hx hb dX0_runByWalking_1 rfl hl (by decide) rfl (fun ls hl => ?_)
  refine lv_iconst (v := 0) hx hb dX0_runByWalking_2 (by decide) ?_
  refine lv_istore_n (lv' := [(2, .int 0), (1, .int 0), (0, .ref h0)]) hx hb dX0_runByWalking_3 rfl hl (by decide) rfl (fun ls hl => ?_)
  refine lv_iconst (v := 0) hx hb dX0_runByWalking_4 (by decide) ?_
  refine lv_istore_n (lv' := [(3, .int 0), (2, .int 0), (1, .int 0), (0, .ref h0)]) hx hb dX0_runByWalking_5 rfl hl (by decide) rfl (fun ls hl => ?_)
  have L6 : ∀ (F : Nat) (k : Nat) (x6_0 : Int32) (x6_1 : Int32), k ≤ 24 → 24 - k < F → x6_0 = zrl lo k → x6_1 = zrn lo k → ∀ (H : Heap) (locs : List Loc), va_P D vwCl [(h0, .inr (4, [.ref l0, .ref g0, .int wk, .int hd])), (l0, .inl (cy 0, 24, .inl lo)), (g0, .inl (cy 0, 24, .inl ag))] H → va_D A [(h0, .inr (4, [.ref l0, .ref g0, .int wk, .int hd])), (l0, .inl (cy 0, 24, .inl lo)), (g0, .inl (cy 0, 24, .inl ag))] → va_S A s.heap H locs → ∀ ls : Array Slot, lv_has ls 4 [(0, .ref h0), (1, .int x6_0), (2, .int x6_1), (3, .int (nI k))] → W p l e rmX0_runByWalking s m ([.ref h0] : List Value).toArray below meth c H locs 0 0 Q (F0 m 6 ls []) := by
    intro F
    induction F with
    | zero =>
      intro k x6_0 x6_1 hk hF ex6_0 ex6_1 H locs hP hD hS ls hl
      exact absurd hF (Nat.not_lt_zero _)
    | succ F ih6 =>
      intro k x6_0 x6_1 hk hF ex6_0 ex6_1 H locs hP hD hS ls hl
      subst ex6_0
      subst ex6_1
      refine lv_iload_n hx hb dX0_runByWalking_6 rfl (lv_at hl 3 rfl) ?_
      refine lv_bipush (v := 24) hx hb dX0_runByWalking_7 (by decide) ?_
      refine lv_icmp_ge (tgt := 41) hx hb dX0_runByWalking_9 (by decide) (fun c_1 => ?_) (fun c_1 => ?_)
      · have hk2 : 24 ≤ k := (nI_leI (by omega) (by omega)).mp c_1
        obtain rfl : 24 = k := by omega
        refine lv_iload_n hx hb dX0_runByWalking_41 rfl (lv_at hl 1 rfl) ?_
        exact ziret hend hx hb hr hlk hK hP hD hS dX0_runByWalking_42 rfl rfl
      · have hk2 : k < 24 := Nat.lt_of_not_le (fun z => c_1 (nI_le z (by omega)))
        refine lv_aload_n hx hb dX0_runByWalking_12 rfl (lv_at hl 0 rfl) ?_
        refine va_get (D := D) (ci := 4) (v := .ref l0) (C := RX0) (T := TX0) (N := 4) hx hb hts in_RX0 hown hK hP 0 rfl rfl 0 (by decide) (hts _ (List.mem_of_getElem? (i := 1) rfl)) (fun _ h9 => h9) rfl dX0_runByWalking_13 ?_
        refine lv_iload_n hx hb dX0_runByWalking_16 rfl (lv_at hl 3 rfl) ?_
        refine ziald 1 0 k hx hb hK hP rfl rfl (by omega) (z_lt rfl) dX0_runByWalking_17 ?_
        refine lv_if_le (tgt := 27) hx hb dX0_runByWalking_18 (by decide) (fun c_2 => ?_) (fun c_2 => ?_)
        · refine lv_iconst (v := 0) hx hb dX0_runByWalking_27 (by decide) ?_
          refine lv_istore_n (lv' := [(2, .int 0), (0, .ref h0), (1, .int (zrl lo k)), (3, .int (nI k))]) hx hb dX0_runByWalking_28 rfl hl (by decide) rfl (fun ls hl => ?_)
          refine lv_iload_n hx hb dX0_runByWalking_29 rfl (lv_at hl 2 rfl) ?_
          refine lv_iload_n hx hb dX0_runByWalking_30 rfl (lv_at hl 0 rfl) ?_
          refine va_mmax hx hb (hml.trans hl.1.symm) hown (hts _ (List.mem_of_getElem? (i := 2) rfl)) (hts _ (List.mem_of_getElem? (i := 3) rfl)) (hts _ (List.mem_of_getElem? (i := 4) rfl)) (hts _ (List.mem_of_getElem? (i := 5) rfl)) (Nat.le_of_ble_eq_true rfl) (Nat.le_of_ble_eq_true rfl) (Nat.zero_le _) (Nat.zero_le _) dX0_runByWalking_31 ?_
          refine lv_istore_n (lv' := [(1, .int (if zrl lo k < 0 then 0 else zrl lo k)), (2, .int 0), (0, .ref h0), (3, .int (nI k))]) hx hb dX0_runByWalking_34 rfl hl (by decide) rfl (fun ls hl => ?_)
          refine lv_iinc (v := nI (k + 1)) (lv' := [(3, .int (nI (k + 1))), (1, .int (if zrl lo k < 0 then 0 else zrl lo k)), (2, .int 0), (0, .ref h0)]) hx hb dX0_runByWalking_35 hl (k := 3) rfl (by rw [show Int32.ofInt 1 = nI 1 from rfl, nI_add]) (by decide) rfl (fun ls hl => ?_)
          refine lv_goto (tgt := 6) hx hb dX0_runByWalking_38 (by decide) ?_
          exact ih6 (k + 1) (if zrl lo k < 0 then 0 else zrl lo k) 0 (by omega) (by omega) (by first | (simp only [zrl, zrn, c_1, c_2, decide_true, decide_false, Bool.not_true, Bool.not_false, Bool.and_true, Bool.true_and, Bool.and_false, Bool.false_and, Bool.or_false, Bool.false_or, Bool.or_true, Bool.true_or, ↓reduceIte, Bool.false_eq_true, not_true_eq_false, not_false_eq_true, and_self]; done) | (simp [zrl, zrn, c_1, c_2]; done) | (simp_all [zrl, zrn]; done)) (by first | (simp only [zrl, zrn, c_1, c_2, decide_true, decide_false, Bool.not_true, Bool.not_false, Bool.and_true, Bool.true_and, Bool.and_false, Bool.false_and, Bool.or_false, Bool.false_or, Bool.or_true, Bool.true_or, ↓reduceIte, Bool.false_eq_true, not_true_eq_false, not_false_eq_true, and_self]; done) | (simp [zrl, zrn, c_1, c_2]; done) | (simp_all [zrl, zrn]; done)) H locs hP hD hS ls (lv_sub hl [3, 1, 2, 0] rfl)
        · refine lv_iload_n hx hb dX0_runByWalking_21 rfl (lv_at hl 2 rfl) ?_
          refine lv_iconst (v := 1) hx hb dX0_runByWalking_22 (by decide) ?_
          refine lv_iadd hx hb dX0_runByWalking_23 ?_
          refine lv_goto (tgt := 28) hx hb dX0_runByWalking_24 (by decide) ?_
          refine lv_istore_n (lv' := [(2, .int ((zrn lo k) + 1)), (0, .ref h0), (1, .int (zrl lo k)), (3, .int (nI k))]) hx hb dX0_runByWalking_28 rfl hl (by decide) rfl (fun ls hl => ?_)
          refine lv_iload_n hx hb dX0_runByWalking_29 rfl (lv_at hl 2 rfl) ?_
          refine lv_iload_n hx hb dX0_runByWalking_30 rfl (lv_at hl 0 rfl) ?_
          refine va_mmax hx hb (hml.trans hl.1.symm) hown (hts _ (List.mem_of_getElem? (i := 2) rfl)) (hts _ (List.mem_of_getElem? (i := 3) rfl)) (hts _ (List.mem_of_getElem? (i := 4) rfl)) (hts _ (List.mem_of_getElem? (i := 5) rfl)) (Nat.le_of_ble_eq_true rfl) (Nat.le_of_ble_eq_true rfl) (Nat.zero_le _) (Nat.zero_le _) dX0_runByWalking_31 ?_
          refine lv_istore_n (lv' := [(1, .int (if zrl lo k < (zrn lo k) + 1 then (zrn lo k) + 1 else zrl lo k)), (2, .int ((zrn lo k) + 1)), (0, .ref h0), (3, .int (nI k))]) hx hb dX0_runByWalking_34 rfl hl (by decide) rfl (fun ls hl => ?_)
          refine lv_iinc (v := nI (k + 1)) (lv' := [(3, .int (nI (k + 1))), (1, .int (if zrl lo k < (zrn lo k) + 1 then (zrn lo k) + 1 else zrl lo k)), (2, .int ((zrn lo k) + 1)), (0, .ref h0)]) hx hb dX0_runByWalking_35 hl (k := 3) rfl (by rw [show Int32.ofInt 1 = nI 1 from rfl, nI_add]) (by decide) rfl (fun ls hl => ?_)
          refine lv_goto (tgt := 6) hx hb dX0_runByWalking_38 (by decide) ?_
          exact ih6 (k + 1) (if zrl lo k < (zrn lo k) + 1 then (zrn lo k) + 1 else zrl lo k) ((zrn lo k) + 1) (by omega) (by omega) (by first | (simp only [zrl, zrn, c_1, c_2, decide_true, decide_false, Bool.not_true, Bool.not_false, Bool.and_true, Bool.true_and, Bool.and_false, Bool.false_and, Bool.or_false, Bool.false_or, Bool.or_true, Bool.true_or, ↓reduceIte, Bool.false_eq_true, not_true_eq_false, not_false_eq_true, and_self]; done) | (simp [zrl, zrn, c_1, c_2]; done) | (simp_all [zrl, zrn]; done)) (by first | (simp only [zrl, zrn, c_1, c_2, decide_true, decide_false, Bool.not_true, Bool.not_false, Bool.and_true, Bool.true_and, Bool.and_false, Bool.false_and, Bool.or_false, Bool.false_or, Bool.or_true, Bool.true_or, ↓reduceIte, Bool.false_eq_true, not_true_eq_false, not_false_eq_true, and_self]; done) | (simp [zrl, zrn, c_1, c_2]; done) | (simp_all [zrl, zrn]; done)) H locs hP hD hS ls (lv_sub hl [3, 1, 2, 0] rfl)
  exact L6 (24 - 0 + 1) 0 0 0 (by omega) (Nat.lt_succ_self _) (by rfl) (by rfl) s.heap [] hP hD hS ls (lv_sub hl [3, 2, 1, 0] rfl)

abbrev rmX0_runByShifting : Room := { frames := 1, cells := 0, slots := 0, locals := 22 }
set_option maxHeartbeats 4000000 in
set_option maxRecDepth 100000 in
theorem c_X0_runByShifting {G : zG} (hg : zGN G) (l : Launch) (D : va_G) (cy : Nat → ClassId) (h0 : Nat) (l0 : Nat) (g0 : Nat) (lo : Nat → Int32) (ag : Nat → Int32) (wk : Int32) (hd : Int32) : zM G D vwCl (zT cy) l yX0_runByShifting wsX0_runByShifting rmX0_runByShifting [.ref h0] [(h0, .inr (4, [.ref l0, .ref g0, .int wk, .int hd])), (l0, .inl (cy 0, 24, .inl lo)), (g0, .inl (cy 0, 24, .inl ag))] (some (.int (zrs 24 (zlm lo 24) 0))) [(h0, .inr (4, [.ref l0, .ref g0, .int wk, .int hd])), (l0, .inl (cy 0, 24, .inl lo)), (g0, .inl (cy 0, 24, .inl ag))] := by
  refine zM_of (cc := cX0_runByShifting) (maxL := 3) (ret := (some .int)) (by decide) rfl (Nat.le_of_ble_eq_true rfl) ?_
  intro p e s m below meth c A Q hend hx hb hml hr hts hown hlk hG hK hP hD hA hS ls hl
  have hown : s.vm.findClass RX0 = some m.cls := hown
  have hl : lv_has ls 3 [(0, .ref h0)] := hl
  refine lv_aload_n hx hb dX0_runByShifting_0 rfl (lv_at hl 0 rfl) ?_
  refine zcV (As := []) (rest := []) [0, 1, 2] 0 hg.1 ⟨hx, hb, hml, hown, hts⟩ (c_X0_loopMask hg l D cy h0 l0 g0 lo ag wk hd) (cwV 0 hts gX0_runByShifting_X0_loopMask rfl rfl rfl (by decide +kernel) ⟨Nat.le_of_ble_eq_true rfl, Nat.le_of_ble_eq_true rfl⟩) hG hK hP hD hS hA rfl rfl rfl rfl rfl rfl hl.1 rfl (Nat.le_of_ble_eq_true rfl) dX0_runByShifting_1 ⟨Nat.zero_le _, Nat.zero_le _⟩ (fun H locs hP hD hS => ?_)
  have hP : va_P D vwCl [(h0, .inr (4, [.ref l0, .ref g0, .int wk, .int hd])), (l0, .inl (cy 0, 24, .inl lo)), (g0, .inl (cy 0, 24, .inl ag))] H := hP
  have hD : va_D A [(h0, .inr (4, [.ref l0, .ref g0, .int wk, .int hd])), (l0, .inl (cy 0, 24, .inl lo)), (g0, .inl (cy 0, 24, .inl ag))] := hD
  refine lv_istore_n (lv' := [(1, .int (zlm lo 24)), (0, .ref h0)]) hx hb dX0_runByShifting_4 rfl hl (by decide) rfl (fun ls hl => ?_)
  refine lv_iconst (v := 0) hx hb dX0_runByShifting_5 (by decide) ?_
  refine lv_istore_n (lv' := [(2, .int 0), (1, .int (zlm lo 24)), (0, .ref h0)]) hx hb dX0_runByShifting_6 rfl hl (by decide) rfl (fun ls hl => ?_)
  have L7 : ∀ (F : Nat) (k : Nat) (mm : Int32), k ≤ 24 → zrs 24 (zlm lo 24) 0 = zrs (24 - k) mm k → 24 - k < F → ∀ (H : Heap) (locs : List Loc), va_P D vwCl [(h0, .inr (4, [.ref l0, .ref g0, .int wk, .int hd])), (l0, .inl (cy 0, 24, .inl lo)), (g0, .inl (cy 0, 24, .inl ag))] H → va_D A [(h0, .inr (4, [.ref l0, .ref g0, .int wk, .int hd])), (l0, .inl (cy 0, 24, .inl lo)), (g0, .inl (cy 0, 24, .inl ag))] → va_S A s.heap H locs → ∀ ls : Array Slot, lv_has ls 3 [(0, .ref h0), (1, .int mm), (2, .int (nI k))] → W p l e rmX0_runByShifting s m ([.ref h0] : List Value).toArray below meth c H locs 0 0 Q (F0 m 7 ls []) := by
    intro F
    induction F with
    | zero =>
      intro k mm hk hr2 hF H locs hP hD hS ls hl
      exact absurd hF (Nat.not_lt_zero _)
    | succ F ih7 =>
      intro k mm hk hr2 hF H locs hP hD hS ls hl
      refine lv_iload_n hx hb dX0_runByShifting_7 rfl (lv_at hl 2 rfl) ?_
      refine lv_bipush (v := 24) hx hb dX0_runByShifting_8 (by decide) ?_
      refine lv_icmp_ge (tgt := 31) hx hb dX0_runByShifting_10 (by decide) (fun c_1 => ?_) (fun c_1 => ?_)
      · have hk2 : 24 ≤ k := (nI_leI (by omega) (by omega)).mp c_1
        obtain rfl : 24 = k := by omega
        refine lv_bipush (v := 24) hx hb dX0_runByShifting_31 (by decide) ?_
        exact ziret hend hx hb hr hlk hK hP hD hS dX0_runByShifting_33 (by first | (rw [hr2, show 24 - k = (24 - (k + 1)) + 1 by omega, zrs]; simp [c_1]; done) | (rw [hr2, Nat.sub_self]; rfl)) rfl
      · have hk2 : k < 24 := Nat.lt_of_not_le (fun z => c_1 (nI_le z (by omega)))
        refine lv_iload_n hx hb dX0_runByShifting_13 rfl (lv_at hl 1 rfl) ?_
        refine lv_if_ne (tgt := 19) hx hb dX0_runByShifting_14 (by decide) (fun c_2 => ?_) (fun c_2 => ?_)
        · refine lv_iload_n hx hb dX0_runByShifting_19 rfl (lv_at hl 1 rfl) ?_
          refine lv_iload_n hx hb dX0_runByShifting_20 rfl (lv_at hl 1 rfl) ?_
          refine lv_iconst (v := 1) hx hb dX0_runByShifting_21 (by decide) ?_
          refine lv_ishl hx hb dX0_runByShifting_22 ?_
          refine lv_iand hx hb dX0_runByShifting_23 ?_
          refine lv_istore_n (lv' := [(1, .int (mm &&& (mm <<< (1 &&& 31)))), (0, .ref h0), (2, .int (nI k))]) hx hb dX0_runByShifting_24 rfl hl (by decide) rfl (fun ls hl => ?_)
          refine lv_iinc (v := nI (k + 1)) (lv' := [(2, .int (nI (k + 1))), (1, .int (mm &&& (mm <<< (1 &&& 31)))), (0, .ref h0)]) hx hb dX0_runByShifting_25 hl (k := 2) rfl (by rw [show Int32.ofInt 1 = nI 1 from rfl, nI_add]) (by decide) rfl (fun ls hl => ?_)
          refine lv_goto (tgt := 7) hx hb dX0_runByShifting_28 (by decide) ?_
          exact ih7 (k + 1) (mm &&& (mm <<< (1 &&& 31))) (by omega) (by rw [hr2, show 24 - k = (24 - (k + 1)) + 1 by omega, zrs]; simp [c_1, c_2]) (by omega) H locs hP hD hS ls (lv_sub hl [2, 1, 0] rfl)
        · refine lv_iload_n hx hb dX0_runByShifting_17 rfl (lv_at hl 2 rfl) ?_
          exact ziret hend hx hb hr hlk hK hP hD hS dX0_runByShifting_18 (by first | (rw [hr2, show 24 - k = (24 - (k + 1)) + 1 by omega, zrs]; simp [c_1, c_2]; done) | (rw [hr2, Nat.sub_self]; rfl)) rfl
  exact L7 (24 - 0 + 1) 0 (zlm lo 24) (by omega) rfl (Nat.lt_succ_self _) H locs hP hD hS ls (lv_sub hl [2, 1, 0] rfl)

abbrev rmX0_knits : Room := { frames := 1, cells := 0, slots := 0, locals := 21 }
set_option maxHeartbeats 4000000 in
set_option maxRecDepth 100000 in
theorem c_X0_knits {G : zG} (hg : zGN G) (l : Launch) (D : va_G) (cy : Nat → ClassId) (h0 : Nat) (l0 : Nat) (g0 : Nat) (lo : Nat → Int32) (ag : Nat → Int32) (wk : Int32) (hd : Int32) (k : Nat) (row : Int32) (hk : k < 24) : zM G D vwCl (zT cy) l yX0_knits wsX0_knits rmX0_knits [.ref h0, .int (nI k), .int row] [(h0, .inr (4, [.ref l0, .ref g0, .int wk, .int hd])), (l0, .inl (cy 0, 24, .inl lo)), (g0, .inl (cy 0, 24, .inl ag))] (some (.int (zI (zkn lo wk hd row k)))) [(h0, .inr (4, [.ref l0, .ref g0, .int wk, .int hd])), (l0, .inl (cy 0, 24, .inl lo)), (g0, .inl (cy 0, 24, .inl ag))] := by
  refine zM_of (cc := cX0_knits) (maxL := 3) (ret := (some .boolean)) (by decide) rfl (Nat.le_of_ble_eq_true rfl) ?_
  intro p e s m below meth c A Q hend hx hb hml hr hts hown hlk hG hK hP hD hA hS ls hl
  have hown : s.vm.findClass RX0 = some m.cls := hown
  have in_RX0 : ∀ w ∈ u_ws RX0 TX0 4, w ∈ wsX0_knits := by decide +kernel
  have hl : lv_has ls 3 [(0, .ref h0), (1, .int (nI k)), (2, .int row)] := hl
  refine lv_aload_n hx hb dX0_knits_0 rfl (lv_at hl 0 rfl) ?_
  refine va_get (D := D) (ci := 4) (v := .ref l0) (C := RX0) (T := TX0) (N := 4) hx hb hts in_RX0 hown hK hP 0 rfl rfl 0 (by decide) (hts _ (List.mem_of_getElem? (i := 1) rfl)) (fun _ h9 => h9) rfl dX0_knits_1 ?_
  refine lv_iload_n hx hb dX0_knits_4 rfl (lv_at hl 1 rfl) ?_
  refine ziald 1 0 k hx hb hK hP rfl rfl (by omega) (z_lt rfl) dX0_knits_5 ?_
  refine lv_if_le (tgt := 42) hx hb dX0_knits_6 (by decide) (fun c_1 => ?_) (fun c_1 => ?_)
  · refine lv_iconst (v := 0) hx hb dX0_knits_42 (by decide) ?_
    exact zzret hend hx hb hr hlk hK hP hD hS dX0_knits_43 rfl (by first | (simp only [zkn, zI, c_1, decide_true, decide_false, Bool.not_true, Bool.not_false, Bool.and_true, Bool.true_and, Bool.and_false, Bool.false_and, Bool.or_false, Bool.false_or, Bool.or_true, Bool.true_or, ↓reduceIte, Bool.false_eq_true, not_true_eq_false, not_false_eq_true, and_self]; done) | (simp [zkn, zI, c_1]; done) | (simp_all [zkn, zI]; done)) rfl
  · refine lv_aload_n hx hb dX0_knits_9 rfl (lv_at hl 0 rfl) ?_
    refine va_get (D := D) (ci := 4) (v := .int wk) (C := RX0) (T := TX0) (N := 4) hx hb hts in_RX0 hown hK hP 0 rfl rfl 2 (by decide) (hts _ (List.mem_of_getElem? (i := 2) rfl)) (fun _ h9 => h9) rfl dX0_knits_10 ?_
    refine lv_aload_n hx hb dX0_knits_13 rfl (lv_at hl 0 rfl) ?_
    refine va_get (D := D) (ci := 4) (v := .int hd) (C := RX0) (T := TX0) (N := 4) hx hb hts in_RX0 hown hK hP 0 rfl rfl 3 (by decide) (hts _ (List.mem_of_getElem? (i := 3) rfl)) (fun _ h9 => h9) rfl dX0_knits_14 ?_
    refine lv_iconst (v := (-1)) hx hb dX0_knits_17 (by decide) ?_
    refine lv_ixor hx hb dX0_knits_18 ?_
    refine lv_iand hx hb dX0_knits_19 ?_
    refine lv_iload_n hx hb dX0_knits_20 rfl (lv_at hl 1 rfl) ?_
    refine zcSN (As := [.int (wk &&& (hd ^^^ (-1))), .int (nI k)]) (rest := []) [] hg.1 ⟨hx, hb, hml, hown, hts⟩ (c_X5_hasBit hg l D cy (wk &&& (hd ^^^ (-1))) (nI k)) ⟨va_cnB 2 hts ggX0_knits_X5_hasBit rfl rfl rfl ((hg.2 A s hG).1) (hts _ (List.mem_of_getElem? (i := 5) rfl)) (by decide +kernel) ⟨Nat.le_of_ble_eq_true rfl, Nat.le_of_ble_eq_true rfl⟩, hts _ (List.mem_of_getElem? (i := 4) rfl), trivial⟩ hG hK hP hD hS hA rfl rfl rfl  rfl hl.1 rfl (Nat.le_of_ble_eq_true rfl) dX0_knits_21 ⟨Nat.zero_le _, Nat.zero_le _⟩ (fun H locs hP hD hS => ?_)
    have hP : va_P D vwCl [(h0, .inr (4, [.ref l0, .ref g0, .int wk, .int hd])), (l0, .inl (cy 0, 24, .inl lo)), (g0, .inl (cy 0, 24, .inl ag))] H := hP
    have hD : va_D A [(h0, .inr (4, [.ref l0, .ref g0, .int wk, .int hd])), (l0, .inl (cy 0, 24, .inl lo)), (g0, .inl (cy 0, 24, .inl ag))] := hD
    refine lv_if_eq (tgt := 42) hx hb dX0_knits_24 (by decide) (fun c_2 => ?_) (fun c_2 => ?_)
    · replace c_2 := zI0 c_2
      refine lv_iconst (v := 0) hx hb dX0_knits_42 (by decide) ?_
      exact zzret hend hx hb hr hlk hK hP hD hS dX0_knits_43 rfl (by first | (simp only [zkn, zI, c_1, c_2, decide_true, decide_false, Bool.not_true, Bool.not_false, Bool.and_true, Bool.true_and, Bool.and_false, Bool.false_and, Bool.or_false, Bool.false_or, Bool.or_true, Bool.true_or, ↓reduceIte, Bool.false_eq_true, not_true_eq_false, not_false_eq_true, and_self]; done) | (simp [zkn, zI, c_1, c_2]; done) | (simp_all [zkn, zI]; done)) rfl
    · replace c_2 := zI1 c_2
      refine lv_iload_n hx hb dX0_knits_27 rfl (lv_at hl 2 rfl) ?_
      refine lv_iload_n hx hb dX0_knits_28 rfl (lv_at hl 1 rfl) ?_
      refine lv_bipush (v := 8) hx hb dX0_knits_29 (by decide) ?_
      refine lv_irem hx hb dX0_knits_31 (by decide) ?_
      refine zcSN (As := [.int row, .int ((nI k) - (nI k) / 8 * 8)]) (rest := []) [] hg.1 ⟨hx, hb, hml, hown, hts⟩ (c_X5_hasBit hg l D cy row ((nI k) - (nI k) / 8 * 8)) ⟨va_cnB 2 hts ggX0_knits_X5_hasBit rfl rfl rfl ((hg.2 A s hG).1) (hts _ (List.mem_of_getElem? (i := 5) rfl)) (by decide +kernel) ⟨Nat.le_of_ble_eq_true rfl, Nat.le_of_ble_eq_true rfl⟩, hts _ (List.mem_of_getElem? (i := 4) rfl), trivial⟩ hG hK hP hD hS hA rfl rfl rfl  rfl hl.1 rfl (Nat.le_of_ble_eq_true rfl) dX0_knits_32 ⟨Nat.zero_le _, Nat.zero_le _⟩ (fun H locs hP hD hS => ?_)
      have hP : va_P D vwCl [(h0, .inr (4, [.ref l0, .ref g0, .int wk, .int hd])), (l0, .inl (cy 0, 24, .inl lo)), (g0, .inl (cy 0, 24, .inl ag))] H := hP
      have hD : va_D A [(h0, .inr (4, [.ref l0, .ref g0, .int wk, .int hd])), (l0, .inl (cy 0, 24, .inl lo)), (g0, .inl (cy 0, 24, .inl ag))] := hD
      refine lv_if_eq (tgt := 42) hx hb dX0_knits_35 (by decide) (fun c_3 => ?_) (fun c_3 => ?_)
      · replace c_3 := zI0 c_3
        refine lv_iconst (v := 0) hx hb dX0_knits_42 (by decide) ?_
        exact zzret hend hx hb hr hlk hK hP hD hS dX0_knits_43 rfl (by first | (simp only [zkn, zI, c_1, c_2, c_3, decide_true, decide_false, Bool.not_true, Bool.not_false, Bool.and_true, Bool.true_and, Bool.and_false, Bool.false_and, Bool.or_false, Bool.false_or, Bool.or_true, Bool.true_or, ↓reduceIte, Bool.false_eq_true, not_true_eq_false, not_false_eq_true, and_self]; done) | (simp [zkn, zI, c_1, c_2, c_3]; done) | (simp_all [zkn, zI]; done)) rfl
      · replace c_3 := zI1 c_3
        refine lv_iconst (v := 1) hx hb dX0_knits_38 (by decide) ?_
        refine lv_goto (tgt := 43) hx hb dX0_knits_39 (by decide) ?_
        exact zzret hend hx hb hr hlk hK hP hD hS dX0_knits_43 rfl (by first | (simp only [zkn, zI, c_1, c_2, c_3, decide_true, decide_false, Bool.not_true, Bool.not_false, Bool.and_true, Bool.true_and, Bool.and_false, Bool.false_and, Bool.or_false, Bool.false_or, Bool.or_true, Bool.true_or, ↓reduceIte, Bool.false_eq_true, not_true_eq_false, not_false_eq_true, and_self]; done) | (simp [zkn, zI, c_1, c_2, c_3]; done) | (simp_all [zkn, zI]; done)) rfl

abbrev rmX0_widthByNeedles : Room := { frames := 2, cells := 0, slots := 0, locals := 43 }
set_option maxHeartbeats 4000000 in
set_option maxRecDepth 100000 in
theorem c_X0_widthByNeedles {G : zG} (hg : zGN G) (l : Launch) (D : va_G) (cy : Nat → ClassId) (h0 : Nat) (l0 : Nat) (g0 : Nat) (lo : Nat → Int32) (ag : Nat → Int32) (wk : Int32) (hd : Int32) (row : Int32) : zM G D vwCl (zT cy) l yX0_widthByNeedles wsX0_widthByNeedles rmX0_widthByNeedles [.ref h0, .int row] [(h0, .inr (4, [.ref l0, .ref g0, .int wk, .int hd])), (l0, .inl (cy 0, 24, .inl lo)), (g0, .inl (cy 0, 24, .inl ag))] (some (.int (zwd lo wk hd row 24))) [(h0, .inr (4, [.ref l0, .ref g0, .int wk, .int hd])), (l0, .inl (cy 0, 24, .inl lo)), (g0, .inl (cy 0, 24, .inl ag))] := by
  refine zM_of (cc := cX0_widthByNeedles) (maxL := 4) (ret := (some .int)) (by decide) rfl (Nat.le_of_ble_eq_true rfl) ?_
  intro p e s m below meth c A Q hend hx hb hml hr hts hown hlk hG hK hP hD hA hS ls hl
  have hown : s.vm.findClass RX0 = some m.cls := hown
  have hl : lv_has ls 4 [(0, .ref h0), (1, .int row)] := hl
  refine lv_iconst (v := 0) hx hb dX0_widthByNeedles_0 (by decide) ?_
  refine lv_istore_n (lv' := [(2, .int 0), (0, .ref h0), (1, .int row)]) hx hb dX0_widthByNeedles_1 rfl hl (by decide) rfl (fun ls hl => ?_)
  refine lv_iconst (v := 0) hx hb dX0_widthByNeedles_2 (by decide) ?_
  refine lv_istore_n (lv' := [(3, .int 0), (2, .int 0), (0, .ref h0), (1, .int row)]) hx hb dX0_widthByNeedles_3 rfl hl (by decide) rfl (fun ls hl => ?_)
  have L4 : ∀ (F : Nat) (k : Nat) (x4_0 : Int32), k ≤ 24 → 24 - k < F → x4_0 = zwd lo wk hd row k → ∀ (H : Heap) (locs : List Loc), va_P D vwCl [(h0, .inr (4, [.ref l0, .ref g0, .int wk, .int hd])), (l0, .inl (cy 0, 24, .inl lo)), (g0, .inl (cy 0, 24, .inl ag))] H → va_D A [(h0, .inr (4, [.ref l0, .ref g0, .int wk, .int hd])), (l0, .inl (cy 0, 24, .inl lo)), (g0, .inl (cy 0, 24, .inl ag))] → va_S A s.heap H locs → ∀ ls : Array Slot, lv_has ls 4 [(0, .ref h0), (1, .int row), (2, .int x4_0), (3, .int (nI k))] → W p l e rmX0_widthByNeedles s m ([.ref h0, .int row] : List Value).toArray below meth c H locs 0 0 Q (F0 m 4 ls []) := by
    intro F
    induction F with
    | zero =>
      intro k x4_0 hk hF ex4_0 H locs hP hD hS ls hl
      exact absurd hF (Nat.not_lt_zero _)
    | succ F ih4 =>
      intro k x4_0 hk hF ex4_0 H locs hP hD hS ls hl
      subst ex4_0
      refine lv_iload_n hx hb dX0_widthByNeedles_4 rfl (lv_at hl 3 rfl) ?_
      refine lv_bipush (v := 24) hx hb dX0_widthByNeedles_5 (by decide) ?_
      refine lv_icmp_ge (tgt := 28) hx hb dX0_widthByNeedles_7 (by decide) (fun c_1 => ?_) (fun c_1 => ?_)
      · have hk2 : 24 ≤ k := (nI_leI (by omega) (by omega)).mp c_1
        obtain rfl : 24 = k := by omega
        refine lv_iload_n hx hb dX0_widthByNeedles_28 rfl (lv_at hl 2 rfl) ?_
        exact ziret hend hx hb hr hlk hK hP hD hS dX0_widthByNeedles_29 rfl rfl
      · have hk2 : k < 24 := Nat.lt_of_not_le (fun z => c_1 (nI_le z (by omega)))
        refine lv_aload_n hx hb dX0_widthByNeedles_10 rfl (lv_at hl 0 rfl) ?_
        refine lv_iload_n hx hb dX0_widthByNeedles_11 rfl (lv_at hl 3 rfl) ?_
        refine lv_iload_n hx hb dX0_widthByNeedles_12 rfl (lv_at hl 1 rfl) ?_
        refine zcV (As := [.int (nI k), .int row]) (rest := []) [0, 1, 2] 0 hg.1 ⟨hx, hb, hml, hown, hts⟩ (c_X0_knits hg l D cy h0 l0 g0 lo ag wk hd k row (by first | assumption | omega)) (cwV 2 hts gX0_widthByNeedles_X0_knits rfl rfl rfl (by decide +kernel) ⟨Nat.le_of_ble_eq_true rfl, Nat.le_of_ble_eq_true rfl⟩) hG hK hP hD hS hA rfl rfl rfl rfl rfl rfl hl.1 rfl (Nat.le_of_ble_eq_true rfl) dX0_widthByNeedles_13 ⟨Nat.zero_le _, Nat.zero_le _⟩ (fun H locs hP hD hS => ?_)
        have hP : va_P D vwCl [(h0, .inr (4, [.ref l0, .ref g0, .int wk, .int hd])), (l0, .inl (cy 0, 24, .inl lo)), (g0, .inl (cy 0, 24, .inl ag))] H := hP
        have hD : va_D A [(h0, .inr (4, [.ref l0, .ref g0, .int wk, .int hd])), (l0, .inl (cy 0, 24, .inl lo)), (g0, .inl (cy 0, 24, .inl ag))] := hD
        refine lv_if_eq (tgt := 22) hx hb dX0_widthByNeedles_16 (by decide) (fun c_2 => ?_) (fun c_2 => ?_)
        · replace c_2 := zI0 c_2
          refine lv_iinc (v := nI (k + 1)) (lv' := [(3, .int (nI (k + 1))), (0, .ref h0), (1, .int row), (2, .int (zwd lo wk hd row k))]) hx hb dX0_widthByNeedles_22 hl (k := 3) rfl (by rw [show Int32.ofInt 1 = nI 1 from rfl, nI_add]) (by decide) rfl (fun ls hl => ?_)
          refine lv_goto (tgt := 4) hx hb dX0_widthByNeedles_25 (by decide) ?_
          exact ih4 (k + 1) (zwd lo wk hd row k) (by omega) (by omega) (by first | (simp only [zwd, c_1, c_2, decide_true, decide_false, Bool.not_true, Bool.not_false, Bool.and_true, Bool.true_and, Bool.and_false, Bool.false_and, Bool.or_false, Bool.false_or, Bool.or_true, Bool.true_or, ↓reduceIte, Bool.false_eq_true, not_true_eq_false, not_false_eq_true, and_self]; done) | (simp [zwd, c_1, c_2]; done) | (simp_all [zwd]; done)) H locs hP hD hS ls (lv_sub hl [1, 2, 3, 0] rfl)
        · replace c_2 := zI1 c_2
          refine lv_iinc (v := zwd lo wk hd row k + 1) (lv' := [(2, .int (zwd lo wk hd row k + 1)), (0, .ref h0), (1, .int row), (3, .int (nI k))]) hx hb dX0_widthByNeedles_19 hl (k := 2) rfl (rfl) (by decide) rfl (fun ls hl => ?_)
          refine lv_iinc (v := nI (k + 1)) (lv' := [(3, .int (nI (k + 1))), (2, .int (zwd lo wk hd row k + 1)), (0, .ref h0), (1, .int row)]) hx hb dX0_widthByNeedles_22 hl (k := 3) rfl (by rw [show Int32.ofInt 1 = nI 1 from rfl, nI_add]) (by decide) rfl (fun ls hl => ?_)
          refine lv_goto (tgt := 4) hx hb dX0_widthByNeedles_25 (by decide) ?_
          exact ih4 (k + 1) (zwd lo wk hd row k + 1) (by omega) (by omega) (by first | (simp only [zwd, c_1, c_2, decide_true, decide_false, Bool.not_true, Bool.not_false, Bool.and_true, Bool.true_and, Bool.and_false, Bool.false_and, Bool.or_false, Bool.false_or, Bool.or_true, Bool.true_or, ↓reduceIte, Bool.false_eq_true, not_true_eq_false, not_false_eq_true, and_self]; done) | (simp [zwd, c_1, c_2]; done) | (simp_all [zwd]; done)) H locs hP hD hS ls (lv_sub hl [2, 3, 1, 0] rfl)
  exact L4 (24 - 0 + 1) 0 0 (by omega) (Nat.lt_succ_self _) (by rfl) s.heap [] hP hD hS ls (lv_sub hl [2, 3, 1, 0] rfl)

abbrev rmX0_widthByMasks : Room := { frames := 1, cells := 0, slots := 0, locals := 22 }
set_option maxHeartbeats 4000000 in
set_option maxRecDepth 100000 in
theorem c_X0_widthByMasks {G : zG} (hg : zGN G) (l : Launch) (D : va_G) (cy : Nat → ClassId) (h0 : Nat) (l0 : Nat) (g0 : Nat) (lo : Nat → Int32) (ag : Nat → Int32) (wk : Int32) (hd : Int32) (row : Int32) : zM G D vwCl (zT cy) l yX0_widthByMasks wsX0_widthByMasks rmX0_widthByMasks [.ref h0, .int row] [(h0, .inr (4, [.ref l0, .ref g0, .int wk, .int hd])), (l0, .inl (cy 0, 24, .inl lo)), (g0, .inl (cy 0, 24, .inl ag))] (some (.int (zpop (wk &&& (hd ^^^ (-1)) &&& zlm lo 24 &&& zkm row 3)))) [(h0, .inr (4, [.ref l0, .ref g0, .int wk, .int hd])), (l0, .inl (cy 0, 24, .inl lo)), (g0, .inl (cy 0, 24, .inl ag))] := by
  refine zM_of (cc := cX0_widthByMasks) (maxL := 4) (ret := (some .int)) (by decide) rfl (Nat.le_of_ble_eq_true rfl) ?_
  intro p e s m below meth c A Q hend hx hb hml hr hts hown hlk hG hK hP hD hA hS ls hl
  have hown : s.vm.findClass RX0 = some m.cls := hown
  have in_RX0 : ∀ w ∈ u_ws RX0 TX0 4, w ∈ wsX0_widthByMasks := by decide +kernel
  have hl : lv_has ls 4 [(0, .ref h0), (1, .int row)] := hl
  refine lv_iconst (v := 0) hx hb dX0_widthByMasks_0 (by decide) ?_
  refine lv_istore_n (lv' := [(2, .int 0), (0, .ref h0), (1, .int row)]) hx hb dX0_widthByMasks_1 rfl hl (by decide) rfl (fun ls hl => ?_)
  refine lv_iconst (v := 0) hx hb dX0_widthByMasks_2 (by decide) ?_
  refine lv_istore_n (lv' := [(3, .int 0), (2, .int 0), (0, .ref h0), (1, .int row)]) hx hb dX0_widthByMasks_3 rfl hl (by decide) rfl (fun ls hl => ?_)
  have L4 : ∀ (F : Nat) (sh : Nat) (j : Nat) (x4_0 : Int32), j ≤ 3 → sh = 8 * j → 24 - sh < F → x4_0 = zkm row j → ∀ (H : Heap) (locs : List Loc), va_P D vwCl [(h0, .inr (4, [.ref l0, .ref g0, .int wk, .int hd])), (l0, .inl (cy 0, 24, .inl lo)), (g0, .inl (cy 0, 24, .inl ag))] H → va_D A [(h0, .inr (4, [.ref l0, .ref g0, .int wk, .int hd])), (l0, .inl (cy 0, 24, .inl lo)), (g0, .inl (cy 0, 24, .inl ag))] → va_S A s.heap H locs → ∀ ls : Array Slot, lv_has ls 4 [(0, .ref h0), (1, .int row), (2, .int x4_0), (3, .int (nI sh))] → W p l e rmX0_widthByMasks s m ([.ref h0, .int row] : List Value).toArray below meth c H locs 0 0 Q (F0 m 4 ls []) := by
    intro F
    induction F with
    | zero =>
      intro sh j x4_0 hj hsh hF ex4_0 H locs hP hD hS ls hl
      exact absurd hF (Nat.not_lt_zero _)
    | succ F ih4 =>
      intro sh j x4_0 hj hsh hF ex4_0 H locs hP hD hS ls hl
      subst ex4_0
      refine lv_iload_n hx hb dX0_widthByMasks_4 rfl (lv_at hl 3 rfl) ?_
      refine lv_bipush (v := 24) hx hb dX0_widthByMasks_5 (by decide) ?_
      refine lv_icmp_ge (tgt := 22) hx hb dX0_widthByMasks_7 (by decide) (fun c_1 => ?_) (fun c_1 => ?_)
      · have hk2 : 24 ≤ sh := (nI_leI (by omega) (by omega)).mp c_1
        obtain rfl : 3 = j := by omega
        refine lv_aload_n hx hb dX0_widthByMasks_22 rfl (lv_at hl 0 rfl) ?_
        refine va_get (D := D) (ci := 4) (v := .int wk) (C := RX0) (T := TX0) (N := 4) hx hb hts in_RX0 hown hK hP 0 rfl rfl 2 (by decide) (hts _ (List.mem_of_getElem? (i := 1) rfl)) (fun _ h9 => h9) rfl dX0_widthByMasks_23 ?_
        refine lv_aload_n hx hb dX0_widthByMasks_26 rfl (lv_at hl 0 rfl) ?_
        refine va_get (D := D) (ci := 4) (v := .int hd) (C := RX0) (T := TX0) (N := 4) hx hb hts in_RX0 hown hK hP 0 rfl rfl 3 (by decide) (hts _ (List.mem_of_getElem? (i := 2) rfl)) (fun _ h9 => h9) rfl dX0_widthByMasks_27 ?_
        refine lv_iconst (v := (-1)) hx hb dX0_widthByMasks_30 (by decide) ?_
        refine lv_ixor hx hb dX0_widthByMasks_31 ?_
        refine lv_iand hx hb dX0_widthByMasks_32 ?_
        refine lv_aload_n hx hb dX0_widthByMasks_33 rfl (lv_at hl 0 rfl) ?_
        refine zcV (As := []) (rest := [.int (wk &&& (hd ^^^ (-1)))]) [0, 1, 2] 0 hg.1 ⟨hx, hb, hml, hown, hts⟩ (c_X0_loopMask hg l D cy h0 l0 g0 lo ag wk hd) (cwV 0 hts gX0_widthByMasks_X0_loopMask rfl rfl rfl (by decide +kernel) ⟨Nat.le_of_ble_eq_true rfl, Nat.le_of_ble_eq_true rfl⟩) hG hK hP hD hS hA rfl rfl rfl rfl rfl rfl hl.1 rfl (Nat.le_of_ble_eq_true rfl) dX0_widthByMasks_34 ⟨Nat.zero_le _, Nat.zero_le _⟩ (fun H locs hP hD hS => ?_)
        have hP : va_P D vwCl [(h0, .inr (4, [.ref l0, .ref g0, .int wk, .int hd])), (l0, .inl (cy 0, 24, .inl lo)), (g0, .inl (cy 0, 24, .inl ag))] H := hP
        have hD : va_D A [(h0, .inr (4, [.ref l0, .ref g0, .int wk, .int hd])), (l0, .inl (cy 0, 24, .inl lo)), (g0, .inl (cy 0, 24, .inl ag))] := hD
        refine lv_iand hx hb dX0_widthByMasks_37 ?_
        refine lv_iload_n hx hb dX0_widthByMasks_38 rfl (lv_at hl 2 rfl) ?_
        refine lv_iand hx hb dX0_widthByMasks_39 ?_
        refine zcS (As := [.int (((wk &&& (hd ^^^ (-1))) &&& (zlm lo 24)) &&& (zkm row 3))]) (rest := []) [] hg.1 ⟨hx, hb, hml, hown, hts⟩ (c_J6_bitCount_0f7a4 hg l D cy (((wk &&& (hd ^^^ (-1))) &&& (zlm lo 24)) &&& (zkm row 3))) (va_cwS 1 hts gX0_widthByMasks_J6_bitCount_0f7a4 rfl rfl rfl (by decide +kernel) ⟨Nat.le_of_ble_eq_true rfl, Nat.le_of_ble_eq_true rfl⟩) hG hK hP hD hS hA rfl rfl rfl  rfl hl.1 rfl (Nat.le_of_ble_eq_true rfl) dX0_widthByMasks_40 ⟨Nat.zero_le _, Nat.zero_le _⟩ (fun H locs hP hD hS => ?_)
        have hP : va_P D vwCl [(h0, .inr (4, [.ref l0, .ref g0, .int wk, .int hd])), (l0, .inl (cy 0, 24, .inl lo)), (g0, .inl (cy 0, 24, .inl ag))] H := hP
        have hD : va_D A [(h0, .inr (4, [.ref l0, .ref g0, .int wk, .int hd])), (l0, .inl (cy 0, 24, .inl lo)), (g0, .inl (cy 0, 24, .inl ag))] := hD
        exact ziret hend hx hb hr hlk hK hP hD hS dX0_widthByMasks_43 (by simp [Int32.and_assoc]) rfl
      · have hk2 : sh < 24 := Nat.lt_of_not_le (fun z => c_1 (nI_le z (by omega)))
        refine lv_iload_n hx hb dX0_widthByMasks_10 rfl (lv_at hl 2 rfl) ?_
        refine lv_iload_n hx hb dX0_widthByMasks_11 rfl (lv_at hl 1 rfl) ?_
        refine lv_iload_n hx hb dX0_widthByMasks_12 rfl (lv_at hl 3 rfl) ?_
        refine lv_ishl hx hb dX0_widthByMasks_13 ?_
        refine lv_ior hx hb dX0_widthByMasks_14 ?_
        refine lv_istore_n (lv' := [(2, .int ((zkm row j) ||| (row <<< ((nI sh) &&& 31)))), (0, .ref h0), (1, .int row), (3, .int (nI sh))]) hx hb dX0_widthByMasks_15 rfl hl (by decide) rfl (fun ls hl => ?_)
        refine lv_iinc (v := nI (sh + 8)) (lv' := [(3, .int (nI (sh + 8))), (2, .int ((zkm row j) ||| (row <<< ((nI sh) &&& 31)))), (0, .ref h0), (1, .int row)]) hx hb dX0_widthByMasks_16 hl (k := 3) rfl (by rw [show Int32.ofInt 8 = nI 8 from rfl, nI_add]) (by decide) rfl (fun ls hl => ?_)
        refine lv_goto (tgt := 4) hx hb dX0_widthByMasks_19 (by decide) ?_
        exact ih4 (sh + 8) (j + 1) ((zkm row j) ||| (row <<< ((nI sh) &&& 31))) (by omega) (by omega) (by omega) (by simp [zkm, hsh]) H locs hP hD hS ls (lv_sub hl [2, 3, 1, 0] rfl)
  exact L4 (24 - 0 + 1) 0 0 0 (by omega) (by omega) (Nat.lt_succ_self _) (by rfl) s.heap [] hP hD hS ls (lv_sub hl [2, 3, 1, 0] rfl)

abbrev rmX0_isClearOutOfWork : Room := { frames := 1, cells := 0, slots := 0, locals := 22 }
set_option maxHeartbeats 4000000 in
set_option maxRecDepth 100000 in
theorem c_X0_isClearOutOfWork {G : zG} (hg : zGN G) (l : Launch) (D : va_G) (cy : Nat → ClassId) (h0 : Nat) (l0 : Nat) (g0 : Nat) (lo : Nat → Int32) (ag : Nat → Int32) (wk : Int32) (hd : Int32) : zM G D vwCl (zT cy) l yX0_isClearOutOfWork wsX0_isClearOutOfWork rmX0_isClearOutOfWork [.ref h0] [(h0, .inr (4, [.ref l0, .ref g0, .int wk, .int hd])), (l0, .inl (cy 0, 24, .inl lo)), (g0, .inl (cy 0, 24, .inl ag))] (some (.int (zI (decide ((zlm lo 24 ||| hd) &&& (wk ^^^ (-1)) = 0))))) [(h0, .inr (4, [.ref l0, .ref g0, .int wk, .int hd])), (l0, .inl (cy 0, 24, .inl lo)), (g0, .inl (cy 0, 24, .inl ag))] := by
  refine zM_of (cc := cX0_isClearOutOfWork) (maxL := 1) (ret := (some .boolean)) (by decide) rfl (Nat.le_of_ble_eq_true rfl) ?_
  intro p e s m below meth c A Q hend hx hb hml hr hts hown hlk hG hK hP hD hA hS ls hl
  have hown : s.vm.findClass RX0 = some m.cls := hown
  have in_RX0 : ∀ w ∈ u_ws RX0 TX0 4, w ∈ wsX0_isClearOutOfWork := by decide +kernel
  have hl : lv_has ls 1 [(0, .ref h0)] := hl
  refine lv_aload_n hx hb dX0_isClearOutOfWork_0 rfl (lv_at hl 0 rfl) ?_
  refine zcV (As := []) (rest := []) [0, 1, 2] 0 hg.1 ⟨hx, hb, hml, hown, hts⟩ (c_X0_loopMask hg l D cy h0 l0 g0 lo ag wk hd) (cwV 0 hts gX0_isClearOutOfWork_X0_loopMask rfl rfl rfl (by decide +kernel) ⟨Nat.le_of_ble_eq_true rfl, Nat.le_of_ble_eq_true rfl⟩) hG hK hP hD hS hA rfl rfl rfl rfl rfl rfl hl.1 rfl (Nat.le_of_ble_eq_true rfl) dX0_isClearOutOfWork_1 ⟨Nat.zero_le _, Nat.zero_le _⟩ (fun H locs hP hD hS => ?_)
  have hP : va_P D vwCl [(h0, .inr (4, [.ref l0, .ref g0, .int wk, .int hd])), (l0, .inl (cy 0, 24, .inl lo)), (g0, .inl (cy 0, 24, .inl ag))] H := hP
  have hD : va_D A [(h0, .inr (4, [.ref l0, .ref g0, .int wk, .int hd])), (l0, .inl (cy 0, 24, .inl lo)), (g0, .inl (cy 0, 24, .inl ag))] := hD
  refine lv_aload_n hx hb dX0_isClearOutOfWork_4 rfl (lv_at hl 0 rfl) ?_
  refine va_get (D := D) (ci := 4) (v := .int hd) (C := RX0) (T := TX0) (N := 4) hx hb hts in_RX0 hown hK hP 0 rfl rfl 3 (by decide) (hts _ (List.mem_of_getElem? (i := 1) rfl)) (fun _ h9 => h9) rfl dX0_isClearOutOfWork_5 ?_
  refine lv_ior hx hb dX0_isClearOutOfWork_8 ?_
  refine lv_aload_n hx hb dX0_isClearOutOfWork_9 rfl (lv_at hl 0 rfl) ?_
  refine va_get (D := D) (ci := 4) (v := .int wk) (C := RX0) (T := TX0) (N := 4) hx hb hts in_RX0 hown hK hP 0 rfl rfl 2 (by decide) (hts _ (List.mem_of_getElem? (i := 2) rfl)) (fun _ h9 => h9) rfl dX0_isClearOutOfWork_10 ?_
  refine lv_iconst (v := (-1)) hx hb dX0_isClearOutOfWork_13 (by decide) ?_
  refine lv_ixor hx hb dX0_isClearOutOfWork_14 ?_
  refine lv_iand hx hb dX0_isClearOutOfWork_15 ?_
  refine lv_if_ne (tgt := 23) hx hb dX0_isClearOutOfWork_16 (by decide) (fun c_1 => ?_) (fun c_1 => ?_)
  · refine lv_iconst (v := 0) hx hb dX0_isClearOutOfWork_23 (by decide) ?_
    exact zzret hend hx hb hr hlk hK hP hD hS dX0_isClearOutOfWork_24 rfl (by first | (simp only [zI, c_1, decide_true, decide_false, Bool.not_true, Bool.not_false, Bool.and_true, Bool.true_and, Bool.and_false, Bool.false_and, Bool.or_false, Bool.false_or, Bool.or_true, Bool.true_or, ↓reduceIte, Bool.false_eq_true, not_true_eq_false, not_false_eq_true, and_self]; done) | (simp [zI, c_1]; done) | (simp_all [zI]; done)) rfl
  · refine lv_iconst (v := 1) hx hb dX0_isClearOutOfWork_19 (by decide) ?_
    refine lv_goto (tgt := 24) hx hb dX0_isClearOutOfWork_20 (by decide) ?_
    exact zzret hend hx hb hr hlk hK hP hD hS dX0_isClearOutOfWork_24 rfl (by first | (simp only [zI, c_1, decide_true, decide_false, Bool.not_true, Bool.not_false, Bool.and_true, Bool.true_and, Bool.and_false, Bool.false_and, Bool.or_false, Bool.false_or, Bool.or_true, Bool.true_or, ↓reduceIte, Bool.false_eq_true, not_true_eq_false, not_false_eq_true, and_self]; done) | (simp [zI, c_1]; done) | (simp_all [zI]; done)) rfl

abbrev rmX0_sign : Room := { frames := 2, cells := 0, slots := 0, locals := 42 }
set_option maxHeartbeats 4000000 in
set_option maxRecDepth 100000 in
theorem c_X0_sign {G : zG} (hg : zGN G) (l : Launch) (D : va_G) (cy : Nat → ClassId) (h0 : Nat) (l0 : Nat) (g0 : Nat) (lo : Nat → Int32) (ag : Nat → Int32) (wk : Int32) (hd : Int32) (k : Nat) (hk : k < 24) : zM G D vwCl (zT cy) l yX0_sign wsX0_sign rmX0_sign [.ref h0, .int (nI k)] [(h0, .inr (4, [.ref l0, .ref g0, .int wk, .int hd])), (l0, .inl (cy 0, 24, .inl lo)), (g0, .inl (cy 0, 24, .inl ag))] (some (.int (zsg lo wk hd k))) [(h0, .inr (4, [.ref l0, .ref g0, .int wk, .int hd])), (l0, .inl (cy 0, 24, .inl lo)), (g0, .inl (cy 0, 24, .inl ag))] := by
  refine zM_of (cc := cX0_sign) (maxL := 2) (ret := (some .char)) (by decide) rfl (Nat.le_of_ble_eq_true rfl) ?_
  intro p e s m below meth c A Q hend hx hb hml hr hts hown hlk hG hK hP hD hA hS ls hl
  have hown : s.vm.findClass RX0 = some m.cls := hown
  have in_RX0 : ∀ w ∈ u_ws RX0 TX0 4, w ∈ wsX0_sign := by decide +kernel
  have hl : lv_has ls 2 [(0, .ref h0), (1, .int (nI k))] := hl
  refine lv_aload_n hx hb dX0_sign_0 rfl (lv_at hl 0 rfl) ?_
  refine lv_iload_n hx hb dX0_sign_1 rfl (lv_at hl 1 rfl) ?_
  refine zcV (As := [.int (nI k)]) (rest := []) [0, 1, 2] 0 hg.1 ⟨hx, hb, hml, hown, hts⟩ (c_X0_works hg l D cy h0 l0 g0 lo ag wk hd k (by first | assumption | omega)) (cwV 1 hts gX0_sign_X0_works rfl rfl rfl (by decide +kernel) ⟨Nat.le_of_ble_eq_true rfl, Nat.le_of_ble_eq_true rfl⟩) hG hK hP hD hS hA rfl rfl rfl rfl rfl rfl hl.1 rfl (Nat.le_of_ble_eq_true rfl) dX0_sign_2 ⟨Nat.zero_le _, Nat.zero_le _⟩ (fun H locs hP hD hS => ?_)
  have hP : va_P D vwCl [(h0, .inr (4, [.ref l0, .ref g0, .int wk, .int hd])), (l0, .inl (cy 0, 24, .inl lo)), (g0, .inl (cy 0, 24, .inl ag))] H := hP
  have hD : va_D A [(h0, .inr (4, [.ref l0, .ref g0, .int wk, .int hd])), (l0, .inl (cy 0, 24, .inl lo)), (g0, .inl (cy 0, 24, .inl ag))] := hD
  refine lv_if_ne (tgt := 11) hx hb dX0_sign_5 (by decide) (fun c_1 => ?_) (fun c_1 => ?_)
  · replace c_1 := zI1 c_1
    refine lv_aload_n hx hb dX0_sign_11 rfl (lv_at hl 0 rfl) ?_
    refine va_get (D := D) (ci := 4) (v := .ref l0) (C := RX0) (T := TX0) (N := 4) hx hb hts in_RX0 hown hK hP 0 rfl rfl 0 (by decide) (hts _ (List.mem_of_getElem? (i := 1) rfl)) (fun _ h9 => h9) rfl dX0_sign_12 ?_
    refine lv_iload_n hx hb dX0_sign_15 rfl (lv_at hl 1 rfl) ?_
    refine ziald 1 0 k hx hb hK hP rfl rfl (by omega) (z_lt rfl) dX0_sign_16 ?_
    refine lv_if_ne (tgt := 36) hx hb dX0_sign_17 (by decide) (fun c_2 => ?_) (fun c_2 => ?_)
    · refine lv_aload_n hx hb dX0_sign_36 rfl (lv_at hl 0 rfl) ?_
      refine lv_iload_n hx hb dX0_sign_37 rfl (lv_at hl 1 rfl) ?_
      refine zcV (As := [.int (nI k)]) (rest := []) [0, 1, 2] 0 hg.1 ⟨hx, hb, hml, hown, hts⟩ (c_X0_isHeld hg l D cy h0 l0 g0 lo ag wk hd k (by first | assumption | omega)) (cwV 1 hts gX0_sign_X0_isHeld rfl rfl rfl (by decide +kernel) ⟨Nat.le_of_ble_eq_true rfl, Nat.le_of_ble_eq_true rfl⟩) hG hK hP hD hS hA rfl rfl rfl rfl rfl rfl hl.1 rfl (Nat.le_of_ble_eq_true rfl) dX0_sign_38 ⟨Nat.zero_le _, Nat.zero_le _⟩ (fun H locs hP hD hS => ?_)
      have hP : va_P D vwCl [(h0, .inr (4, [.ref l0, .ref g0, .int wk, .int hd])), (l0, .inl (cy 0, 24, .inl lo)), (g0, .inl (cy 0, 24, .inl ag))] H := hP
      have hD : va_D A [(h0, .inr (4, [.ref l0, .ref g0, .int wk, .int hd])), (l0, .inl (cy 0, 24, .inl lo)), (g0, .inl (cy 0, 24, .inl ag))] := hD
      refine lv_if_eq (tgt := 49) hx hb dX0_sign_41 (by decide) (fun c_3 => ?_) (fun c_3 => ?_)
      · replace c_3 := zI0 c_3
        refine lv_bipush (v := 49) hx hb dX0_sign_49 (by decide) ?_
        refine lv_aload_n hx hb dX0_sign_51 rfl (lv_at hl 0 rfl) ?_
        refine va_get (D := D) (ci := 4) (v := .ref l0) (C := RX0) (T := TX0) (N := 4) hx hb hts in_RX0 hown hK hP 0 rfl rfl 0 (by decide) (hts _ (List.mem_of_getElem? (i := 1) rfl)) (fun _ h9 => h9) rfl dX0_sign_52 ?_
        refine lv_iload_n hx hb dX0_sign_55 rfl (lv_at hl 1 rfl) ?_
        refine ziald 1 0 k hx hb hK hP rfl rfl (by omega) (z_lt rfl) dX0_sign_56 ?_
        refine lv_iadd hx hb dX0_sign_57 ?_
        refine lv_iconst (v := 1) hx hb dX0_sign_58 (by decide) ?_
        refine lv_isub hx hb dX0_sign_59 ?_
        refine lv_i2c hx hb dX0_sign_60 rfl ?_
        exact zzret hend hx hb hr hlk hK hP hD hS dX0_sign_61 (pk_nc _) (by first | (simp only [zsg, c_1, c_2, c_3, decide_true, decide_false, Bool.not_true, Bool.not_false, Bool.and_true, Bool.true_and, Bool.and_false, Bool.false_and, Bool.or_false, Bool.false_or, Bool.or_true, Bool.true_or, ↓reduceIte, Bool.false_eq_true, not_true_eq_false, not_false_eq_true, and_self]; done) | (simp [zsg, c_1, c_2, c_3]; done) | (simp_all [zsg]; done)) rfl
      · replace c_3 := zI1 c_3
        refine lv_bipush (v := 97) hx hb dX0_sign_44 (by decide) ?_
        refine lv_goto (tgt := 51) hx hb dX0_sign_46 (by decide) ?_
        refine lv_aload_n hx hb dX0_sign_51 rfl (lv_at hl 0 rfl) ?_
        refine va_get (D := D) (ci := 4) (v := .ref l0) (C := RX0) (T := TX0) (N := 4) hx hb hts in_RX0 hown hK hP 0 rfl rfl 0 (by decide) (hts _ (List.mem_of_getElem? (i := 1) rfl)) (fun _ h9 => h9) rfl dX0_sign_52 ?_
        refine lv_iload_n hx hb dX0_sign_55 rfl (lv_at hl 1 rfl) ?_
        refine ziald 1 0 k hx hb hK hP rfl rfl (by omega) (z_lt rfl) dX0_sign_56 ?_
        refine lv_iadd hx hb dX0_sign_57 ?_
        refine lv_iconst (v := 1) hx hb dX0_sign_58 (by decide) ?_
        refine lv_isub hx hb dX0_sign_59 ?_
        refine lv_i2c hx hb dX0_sign_60 rfl ?_
        exact zzret hend hx hb hr hlk hK hP hD hS dX0_sign_61 (pk_nc _) (by first | (simp only [zsg, c_1, c_2, c_3, decide_true, decide_false, Bool.not_true, Bool.not_false, Bool.and_true, Bool.true_and, Bool.and_false, Bool.false_and, Bool.or_false, Bool.false_or, Bool.or_true, Bool.true_or, ↓reduceIte, Bool.false_eq_true, not_true_eq_false, not_false_eq_true, and_self]; done) | (simp [zsg, c_1, c_2, c_3]; done) | (simp_all [zsg]; done)) rfl
    · refine lv_aload_n hx hb dX0_sign_20 rfl (lv_at hl 0 rfl) ?_
      refine lv_iload_n hx hb dX0_sign_21 rfl (lv_at hl 1 rfl) ?_
      refine zcV (As := [.int (nI k)]) (rest := []) [0, 1, 2] 0 hg.1 ⟨hx, hb, hml, hown, hts⟩ (c_X0_isHeld hg l D cy h0 l0 g0 lo ag wk hd k (by first | assumption | omega)) (cwV 1 hts gX0_sign_X0_isHeld rfl rfl rfl (by decide +kernel) ⟨Nat.le_of_ble_eq_true rfl, Nat.le_of_ble_eq_true rfl⟩) hG hK hP hD hS hA rfl rfl rfl rfl rfl rfl hl.1 rfl (Nat.le_of_ble_eq_true rfl) dX0_sign_22 ⟨Nat.zero_le _, Nat.zero_le _⟩ (fun H locs hP hD hS => ?_)
      have hP : va_P D vwCl [(h0, .inr (4, [.ref l0, .ref g0, .int wk, .int hd])), (l0, .inl (cy 0, 24, .inl lo)), (g0, .inl (cy 0, 24, .inl ag))] H := hP
      have hD : va_D A [(h0, .inr (4, [.ref l0, .ref g0, .int wk, .int hd])), (l0, .inl (cy 0, 24, .inl lo)), (g0, .inl (cy 0, 24, .inl ag))] := hD
      refine lv_if_eq (tgt := 33) hx hb dX0_sign_25 (by decide) (fun c_4 => ?_) (fun c_4 => ?_)
      · replace c_4 := zI0 c_4
        refine lv_bipush (v := 111) hx hb dX0_sign_33 (by decide) ?_
        exact zzret hend hx hb hr hlk hK hP hD hS dX0_sign_35 rfl (by first | (simp only [zsg, c_1, c_2, c_4, decide_true, decide_false, Bool.not_true, Bool.not_false, Bool.and_true, Bool.true_and, Bool.and_false, Bool.false_and, Bool.or_false, Bool.false_or, Bool.or_true, Bool.true_or, ↓reduceIte, Bool.false_eq_true, not_true_eq_false, not_false_eq_true, and_self]; done) | (simp [zsg, c_1, c_2, c_4]; done) | (simp_all [zsg]; done)) rfl
      · replace c_4 := zI1 c_4
        refine lv_bipush (v := 104) hx hb dX0_sign_28 (by decide) ?_
        refine lv_goto (tgt := 35) hx hb dX0_sign_30 (by decide) ?_
        exact zzret hend hx hb hr hlk hK hP hD hS dX0_sign_35 rfl (by first | (simp only [zsg, c_1, c_2, c_4, decide_true, decide_false, Bool.not_true, Bool.not_false, Bool.and_true, Bool.true_and, Bool.and_false, Bool.false_and, Bool.or_false, Bool.false_or, Bool.or_true, Bool.true_or, ↓reduceIte, Bool.false_eq_true, not_true_eq_false, not_false_eq_true, and_self]; done) | (simp [zsg, c_1, c_2, c_4]; done) | (simp_all [zsg]; done)) rfl
  · replace c_1 := zI0 c_1
    refine lv_bipush (v := 46) hx hb dX0_sign_8 (by decide) ?_
    exact zzret hend hx hb hr hlk hK hP hD hS dX0_sign_10 rfl (by first | (simp only [zsg, c_1, decide_true, decide_false, Bool.not_true, Bool.not_false, Bool.and_true, Bool.true_and, Bool.and_false, Bool.false_and, Bool.or_false, Bool.false_or, Bool.or_true, Bool.true_or, ↓reduceIte, Bool.false_eq_true, not_true_eq_false, not_false_eq_true, and_self]; done) | (simp [zsg, c_1]; done) | (simp_all [zsg]; done)) rfl

abbrev rmX0_putOneLoop : Room := { frames := 0, cells := 0, slots := 0, locals := 0 }
set_option maxHeartbeats 4000000 in
set_option maxRecDepth 100000 in
theorem c_X0_putOneLoop {G : zG} (hg : zGN G) (l : Launch) (D : va_G) (cy : Nat → ClassId) (h0 : Nat) (l0 : Nat) (g0 : Nat) (lo : Nat → Int32) (ag : Nat → Int32) (wk : Int32) (hd : Int32) (k : Nat) (hk : k < 24) : zM G D vwCl (zT cy) l yX0_putOneLoop wsX0_putOneLoop rmX0_putOneLoop [.ref h0, .int (nI k)] [(h0, .inr (4, [.ref l0, .ref g0, .int wk, .int hd])), (l0, .inl (cy 0, 24, .inl lo)), (g0, .inl (cy 0, 24, .inl ag))] none [(h0, .inr (4, [.ref l0, .ref g0, .int wk, .int hd])), (l0, .inl (cy 0, 24, .inl (upd lo k 1))), (g0, .inl (cy 0, 24, .inl (upd ag k 0)))] := by
  refine zM_of (cc := cX0_putOneLoop) (maxL := 2) (ret := none) (by decide) rfl (Nat.le_of_ble_eq_true rfl) ?_
  intro p e s m below meth c A Q hend hx hb hml hr hts hown hlk hG hK hP hD hA hS ls hl
  have hown : s.vm.findClass RX0 = some m.cls := hown
  have in_RX0 : ∀ w ∈ u_ws RX0 TX0 4, w ∈ wsX0_putOneLoop := by decide +kernel
  have hl : lv_has ls 2 [(0, .ref h0), (1, .int (nI k))] := hl
  refine lv_aload_n hx hb dX0_putOneLoop_0 rfl (lv_at hl 0 rfl) ?_
  refine va_get (D := D) (ci := 4) (v := .ref l0) (C := RX0) (T := TX0) (N := 4) hx hb hts in_RX0 hown hK hP 0 rfl rfl 0 (by decide) (hts _ (List.mem_of_getElem? (i := 1) rfl)) (fun _ h9 => h9) rfl dX0_putOneLoop_1 ?_
  refine lv_iload_n hx hb dX0_putOneLoop_4 rfl (lv_at hl 1 rfl) ?_
  refine lv_iconst (v := 1) hx hb dX0_putOneLoop_5 (by decide) ?_
  refine ziast 1 0 k hx hb hK hP hD hS rfl rfl (by omega) (z_lt rfl) dX0_putOneLoop_6 (fun H locs hP hD hS => ?_)
  have hP : va_P D vwCl [(h0, .inr (4, [.ref l0, .ref g0, .int wk, .int hd])), (l0, .inl (cy 0, 24, .inl (upd lo k 1))), (g0, .inl (cy 0, 24, .inl ag))] H := hP
  have hD : va_D A [(h0, .inr (4, [.ref l0, .ref g0, .int wk, .int hd])), (l0, .inl (cy 0, 24, .inl (upd lo k 1))), (g0, .inl (cy 0, 24, .inl ag))] := hD
  refine lv_aload_n hx hb dX0_putOneLoop_7 rfl (lv_at hl 0 rfl) ?_
  refine va_get (D := D) (ci := 4) (v := .ref g0) (C := RX0) (T := TX0) (N := 4) hx hb hts in_RX0 hown hK hP 0 rfl rfl 1 (by decide) (hts _ (List.mem_of_getElem? (i := 2) rfl)) (fun _ h9 => h9) rfl dX0_putOneLoop_8 ?_
  refine lv_iload_n hx hb dX0_putOneLoop_11 rfl (lv_at hl 1 rfl) ?_
  refine lv_iconst (v := 0) hx hb dX0_putOneLoop_12 (by decide) ?_
  refine ziast 2 0 k hx hb hK hP hD hS rfl rfl (by omega) (z_lt rfl) dX0_putOneLoop_13 (fun H locs hP hD hS => ?_)
  have hP : va_P D vwCl [(h0, .inr (4, [.ref l0, .ref g0, .int wk, .int hd])), (l0, .inl (cy 0, 24, .inl (upd lo k 1))), (g0, .inl (cy 0, 24, .inl (upd ag k 0)))] H := hP
  have hD : va_D A [(h0, .inr (4, [.ref l0, .ref g0, .int wk, .int hd])), (l0, .inl (cy 0, 24, .inl (upd lo k 1))), (g0, .inl (cy 0, 24, .inl (upd ag k 0)))] := hD
  exact zvret hend hx hb hr hlk hK hP hD hS dX0_putOneLoop_14 rfl

abbrev rmX0_takeLoops : Room := { frames := 0, cells := 0, slots := 0, locals := 0 }
set_option maxHeartbeats 4000000 in
set_option maxRecDepth 100000 in
theorem c_X0_takeLoops {G : zG} (hg : zGN G) (l : Launch) (D : va_G) (cy : Nat → ClassId) (h0 : Nat) (l0 : Nat) (g0 : Nat) (lo : Nat → Int32) (ag : Nat → Int32) (wk : Int32) (hd : Int32) (k : Nat) (hk : k < 24) : zM G D vwCl (zT cy) l yX0_takeLoops wsX0_takeLoops rmX0_takeLoops [.ref h0, .int (nI k)] [(h0, .inr (4, [.ref l0, .ref g0, .int wk, .int hd])), (l0, .inl (cy 0, 24, .inl lo)), (g0, .inl (cy 0, 24, .inl ag))] (some (.int (lo k))) [(h0, .inr (4, [.ref l0, .ref g0, .int wk, .int hd])), (l0, .inl (cy 0, 24, .inl (upd lo k 0))), (g0, .inl (cy 0, 24, .inl (upd ag k 0)))] := by
  refine zM_of (cc := cX0_takeLoops) (maxL := 3) (ret := (some .int)) (by decide) rfl (Nat.le_of_ble_eq_true rfl) ?_
  intro p e s m below meth c A Q hend hx hb hml hr hts hown hlk hG hK hP hD hA hS ls hl
  have hown : s.vm.findClass RX0 = some m.cls := hown
  have in_RX0 : ∀ w ∈ u_ws RX0 TX0 4, w ∈ wsX0_takeLoops := by decide +kernel
  have hl : lv_has ls 3 [(0, .ref h0), (1, .int (nI k))] := hl
  refine lv_aload_n hx hb dX0_takeLoops_0 rfl (lv_at hl 0 rfl) ?_
  refine va_get (D := D) (ci := 4) (v := .ref l0) (C := RX0) (T := TX0) (N := 4) hx hb hts in_RX0 hown hK hP 0 rfl rfl 0 (by decide) (hts _ (List.mem_of_getElem? (i := 1) rfl)) (fun _ h9 => h9) rfl dX0_takeLoops_1 ?_
  refine lv_iload_n hx hb dX0_takeLoops_4 rfl (lv_at hl 1 rfl) ?_
  refine ziald 1 0 k hx hb hK hP rfl rfl (by omega) (z_lt rfl) dX0_takeLoops_5 ?_
  refine lv_istore_n (lv' := [(2, .int (lo k)), (0, .ref h0), (1, .int (nI k))]) hx hb dX0_takeLoops_6 rfl hl (by decide) rfl (fun ls hl => ?_)
  refine lv_aload_n hx hb dX0_takeLoops_7 rfl (lv_at hl 1 rfl) ?_
  refine va_get (D := D) (ci := 4) (v := .ref l0) (C := RX0) (T := TX0) (N := 4) hx hb hts in_RX0 hown hK hP 0 rfl rfl 0 (by decide) (hts _ (List.mem_of_getElem? (i := 1) rfl)) (fun _ h9 => h9) rfl dX0_takeLoops_8 ?_
  refine lv_iload_n hx hb dX0_takeLoops_11 rfl (lv_at hl 2 rfl) ?_
  refine lv_iconst (v := 0) hx hb dX0_takeLoops_12 (by decide) ?_
  refine ziast 1 0 k hx hb hK hP hD hS rfl rfl (by omega) (z_lt rfl) dX0_takeLoops_13 (fun H locs hP hD hS => ?_)
  have hP : va_P D vwCl [(h0, .inr (4, [.ref l0, .ref g0, .int wk, .int hd])), (l0, .inl (cy 0, 24, .inl (upd lo k 0))), (g0, .inl (cy 0, 24, .inl ag))] H := hP
  have hD : va_D A [(h0, .inr (4, [.ref l0, .ref g0, .int wk, .int hd])), (l0, .inl (cy 0, 24, .inl (upd lo k 0))), (g0, .inl (cy 0, 24, .inl ag))] := hD
  refine lv_aload_n hx hb dX0_takeLoops_14 rfl (lv_at hl 1 rfl) ?_
  refine va_get (D := D) (ci := 4) (v := .ref g0) (C := RX0) (T := TX0) (N := 4) hx hb hts in_RX0 hown hK hP 0 rfl rfl 1 (by decide) (hts _ (List.mem_of_getElem? (i := 2) rfl)) (fun _ h9 => h9) rfl dX0_takeLoops_15 ?_
  refine lv_iload_n hx hb dX0_takeLoops_18 rfl (lv_at hl 2 rfl) ?_
  refine lv_iconst (v := 0) hx hb dX0_takeLoops_19 (by decide) ?_
  refine ziast 2 0 k hx hb hK hP hD hS rfl rfl (by omega) (z_lt rfl) dX0_takeLoops_20 (fun H locs hP hD hS => ?_)
  have hP : va_P D vwCl [(h0, .inr (4, [.ref l0, .ref g0, .int wk, .int hd])), (l0, .inl (cy 0, 24, .inl (upd lo k 0))), (g0, .inl (cy 0, 24, .inl (upd ag k 0)))] H := hP
  have hD : va_D A [(h0, .inr (4, [.ref l0, .ref g0, .int wk, .int hd])), (l0, .inl (cy 0, 24, .inl (upd lo k 0))), (g0, .inl (cy 0, 24, .inl (upd ag k 0)))] := hD
  refine lv_iload_n hx hb dX0_takeLoops_21 rfl (lv_at hl 0 rfl) ?_
  exact ziret hend hx hb hr hlk hK hP hD hS dX0_takeLoops_22 rfl rfl

abbrev rmX0_takeOutOfWork : Room := { frames := 1, cells := 0, slots := 0, locals := 22 }
set_option maxHeartbeats 4000000 in
set_option maxRecDepth 100000 in
theorem c_X0_takeOutOfWork {G : zG} (hg : zGN G) (l : Launch) (D : va_G) (cy : Nat → ClassId) (h0 : Nat) (l0 : Nat) (g0 : Nat) (lo : Nat → Int32) (ag : Nat → Int32) (wk : Int32) (hd : Int32) (k : Nat) (hk : k < 24) : zM G D vwCl (zT cy) l yX0_takeOutOfWork wsX0_takeOutOfWork rmX0_takeOutOfWork [.ref h0, .int (nI k)] [(h0, .inr (4, [.ref l0, .ref g0, .int wk, .int hd])), (l0, .inl (cy 0, 24, .inl lo)), (g0, .inl (cy 0, 24, .inl ag))] (some (.int (lo k))) [(h0, .inr (4, [.ref l0, .ref g0, .int (wk &&& ((1 <<< (nI k &&& 31)) ^^^ (-1))), .int (hd &&& ((1 <<< (nI k &&& 31)) ^^^ (-1)))])), (l0, .inl (cy 0, 24, .inl (upd lo k 0))), (g0, .inl (cy 0, 24, .inl (upd ag k 0)))] := by
  refine zM_of (cc := cX0_takeOutOfWork) (maxL := 2) (ret := (some .int)) (by decide) rfl (Nat.le_of_ble_eq_true rfl) ?_
  intro p e s m below meth c A Q hend hx hb hml hr hts hown hlk hG hK hP hD hA hS ls hl
  have hown : s.vm.findClass RX0 = some m.cls := hown
  have in_RX0 : ∀ w ∈ u_ws RX0 TX0 4, w ∈ wsX0_takeOutOfWork := by decide +kernel
  have hl : lv_has ls 2 [(0, .ref h0), (1, .int (nI k))] := hl
  refine lv_aload_n hx hb dX0_takeOutOfWork_0 rfl (lv_at hl 0 rfl) ?_
  refine lv_dup hx hb dX0_takeOutOfWork_1 rfl ?_
  refine va_get (D := D) (ci := 4) (v := .int wk) (C := RX0) (T := TX0) (N := 4) hx hb hts in_RX0 hown hK hP 0 rfl rfl 2 (by decide) (hts _ (List.mem_of_getElem? (i := 1) rfl)) (fun _ h9 => h9) rfl dX0_takeOutOfWork_2 ?_
  refine lv_iconst (v := 1) hx hb dX0_takeOutOfWork_5 (by decide) ?_
  refine lv_iload_n hx hb dX0_takeOutOfWork_6 rfl (lv_at hl 1 rfl) ?_
  refine lv_ishl hx hb dX0_takeOutOfWork_7 ?_
  refine lv_iconst (v := (-1)) hx hb dX0_takeOutOfWork_8 (by decide) ?_
  refine lv_ixor hx hb dX0_takeOutOfWork_9 ?_
  refine lv_iand hx hb dX0_takeOutOfWork_10 ?_
  refine va_put (D := D) (ci := 4) (v := .int (wk &&& ((1 <<< ((nI k) &&& 31)) ^^^ (-1)))) (ty := .int) (C := RX0) (T := TX0) (N := 4) hx hb hts in_RX0 tyX0 tyX0_ok nmX0 hown hK hP hD hS 0 rfl rfl 2 (by decide) (hts _ (List.mem_of_getElem? (i := 1) rfl)) (fun _ h9 => h9) rfl (by decide +kernel) rfl rfl (Nat.le_of_ble_eq_true rfl) dX0_takeOutOfWork_11 (fun H locs hP hD hS => ?_)
  have hP : va_P D vwCl [(h0, .inr (4, [.ref l0, .ref g0, .int (wk &&& ((1 <<< ((nI k) &&& 31)) ^^^ (-1))), .int hd])), (l0, .inl (cy 0, 24, .inl lo)), (g0, .inl (cy 0, 24, .inl ag))] H := hP
  have hD : va_D A [(h0, .inr (4, [.ref l0, .ref g0, .int (wk &&& ((1 <<< ((nI k) &&& 31)) ^^^ (-1))), .int hd])), (l0, .inl (cy 0, 24, .inl lo)), (g0, .inl (cy 0, 24, .inl ag))] := hD
  refine lv_aload_n hx hb dX0_takeOutOfWork_14 rfl (lv_at hl 0 rfl) ?_
  refine lv_dup hx hb dX0_takeOutOfWork_15 rfl ?_
  refine va_get (D := D) (ci := 4) (v := .int hd) (C := RX0) (T := TX0) (N := 4) hx hb hts in_RX0 hown hK hP 0 rfl rfl 3 (by decide) (hts _ (List.mem_of_getElem? (i := 2) rfl)) (fun _ h9 => h9) rfl dX0_takeOutOfWork_16 ?_
  refine lv_iconst (v := 1) hx hb dX0_takeOutOfWork_19 (by decide) ?_
  refine lv_iload_n hx hb dX0_takeOutOfWork_20 rfl (lv_at hl 1 rfl) ?_
  refine lv_ishl hx hb dX0_takeOutOfWork_21 ?_
  refine lv_iconst (v := (-1)) hx hb dX0_takeOutOfWork_22 (by decide) ?_
  refine lv_ixor hx hb dX0_takeOutOfWork_23 ?_
  refine lv_iand hx hb dX0_takeOutOfWork_24 ?_
  refine va_put (D := D) (ci := 4) (v := .int (hd &&& ((1 <<< ((nI k) &&& 31)) ^^^ (-1)))) (ty := .int) (C := RX0) (T := TX0) (N := 4) hx hb hts in_RX0 tyX0 tyX0_ok nmX0 hown hK hP hD hS 0 rfl rfl 3 (by decide) (hts _ (List.mem_of_getElem? (i := 2) rfl)) (fun _ h9 => h9) rfl (by decide +kernel) rfl rfl (Nat.le_of_ble_eq_true rfl) dX0_takeOutOfWork_25 (fun H locs hP hD hS => ?_)
  have hP : va_P D vwCl [(h0, .inr (4, [.ref l0, .ref g0, .int (wk &&& ((1 <<< ((nI k) &&& 31)) ^^^ (-1))), .int (hd &&& ((1 <<< ((nI k) &&& 31)) ^^^ (-1)))])), (l0, .inl (cy 0, 24, .inl lo)), (g0, .inl (cy 0, 24, .inl ag))] H := hP
  have hD : va_D A [(h0, .inr (4, [.ref l0, .ref g0, .int (wk &&& ((1 <<< ((nI k) &&& 31)) ^^^ (-1))), .int (hd &&& ((1 <<< ((nI k) &&& 31)) ^^^ (-1)))])), (l0, .inl (cy 0, 24, .inl lo)), (g0, .inl (cy 0, 24, .inl ag))] := hD
  refine lv_aload_n hx hb dX0_takeOutOfWork_28 rfl (lv_at hl 0 rfl) ?_
  refine lv_iload_n hx hb dX0_takeOutOfWork_29 rfl (lv_at hl 1 rfl) ?_
  refine zcV (As := [.int (nI k)]) (rest := []) [0, 1, 2] 0 hg.1 ⟨hx, hb, hml, hown, hts⟩ (c_X0_takeLoops hg l D cy h0 l0 g0 lo ag (wk &&& ((1 <<< ((nI k) &&& 31)) ^^^ (-1))) (hd &&& ((1 <<< ((nI k) &&& 31)) ^^^ (-1))) k (by first | assumption | omega)) (cwV 1 hts gX0_takeOutOfWork_X0_takeLoops rfl rfl rfl (by decide +kernel) ⟨Nat.le_of_ble_eq_true rfl, Nat.le_of_ble_eq_true rfl⟩) hG hK hP hD hS hA rfl rfl (Eq.trans (b := [h0, l0, g0]) rfl rfl) rfl rfl rfl hl.1 rfl (Nat.le_of_ble_eq_true rfl) dX0_takeOutOfWork_30 ⟨Nat.zero_le _, Nat.zero_le _⟩ (fun H locs hP hD hS => ?_)
  have hP : va_P D vwCl [(h0, .inr (4, [.ref l0, .ref g0, .int (wk &&& ((1 <<< ((nI k) &&& 31)) ^^^ (-1))), .int (hd &&& ((1 <<< ((nI k) &&& 31)) ^^^ (-1)))])), (l0, .inl (cy 0, 24, .inl (upd lo k 0))), (g0, .inl (cy 0, 24, .inl (upd ag k 0)))] H := hP
  have hD : va_D A [(h0, .inr (4, [.ref l0, .ref g0, .int (wk &&& ((1 <<< ((nI k) &&& 31)) ^^^ (-1))), .int (hd &&& ((1 <<< ((nI k) &&& 31)) ^^^ (-1)))])), (l0, .inl (cy 0, 24, .inl (upd lo k 0))), (g0, .inl (cy 0, 24, .inl (upd ag k 0)))] := hD
  exact ziret hend hx hb hr hlk hK hP hD hS dX0_takeOutOfWork_33 rfl (by rfl)

abbrev rmX0_takeAllOutOfWork : Room := { frames := 2, cells := 0, slots := 0, locals := 43 }
set_option maxHeartbeats 4000000 in
set_option maxRecDepth 100000 in
theorem c_X0_takeAllOutOfWork {G : zG} (hg : zGN G) (l : Launch) (D : va_G) (cy : Nat → ClassId) (h0 : Nat) (l0 : Nat) (g0 : Nat) (lo : Nat → Int32) (ag : Nat → Int32) (wk : Int32) (hd : Int32) : zM G D vwCl (zT cy) l yX0_takeAllOutOfWork wsX0_takeAllOutOfWork rmX0_takeAllOutOfWork [.ref h0] [(h0, .inr (4, [.ref l0, .ref g0, .int wk, .int hd])), (l0, .inl (cy 0, 24, .inl lo)), (g0, .inl (cy 0, 24, .inl ag))] (some (.int (zta lo 24))) [(h0, .inr (4, [.ref l0, .ref g0, .int (zcm wk 24), .int (zcm hd 24)])), (l0, .inl (cy 0, 24, .inl (zclr lo 24))), (g0, .inl (cy 0, 24, .inl (zclr ag 24)))] := by
  refine zM_of (cc := cX0_takeAllOutOfWork) (maxL := 3) (ret := (some .int)) (by decide) rfl (Nat.le_of_ble_eq_true rfl) ?_
  intro p e s m below meth c A Q hend hx hb hml hr hts hown hlk hG hK hP hD hA hS ls hl
  have hown : s.vm.findClass RX0 = some m.cls := hown
  have hl : lv_has ls 3 [(0, .ref h0)] := hl
  refine lv_iconst (v := 0) hx hb dX0_takeAllOutOfWork_0 (by decide) ?_
  refine lv_istore_n (lv' := [(1, .int 0), (0, .ref h0)]) hx hb dX0_takeAllOutOfWork_1 rfl hl (by decide) rfl (fun ls hl => ?_)
  refine lv_iconst (v := 0) hx hb dX0_takeAllOutOfWork_2 (by decide) ?_
  refine lv_istore_n (lv' := [(2, .int 0), (1, .int 0), (0, .ref h0)]) hx hb dX0_takeAllOutOfWork_3 rfl hl (by decide) rfl (fun ls hl => ?_)
  have L4 : ∀ (F : Nat) (k : Nat) (x4_0 : Int32) (x4_1 : Int32) (x4_2 : Int32) (x4_3 : Nat → Int32) (x4_4 : Nat → Int32), k ≤ 24 → 24 - k < F → x4_0 = zta lo k → x4_1 = zcm wk k → x4_2 = zcm hd k → x4_3 = zclr lo k → x4_4 = zclr ag k → ∀ (H : Heap) (locs : List Loc), va_P D vwCl [(h0, .inr (4, [.ref l0, .ref g0, .int x4_1, .int x4_2])), (l0, .inl (cy 0, 24, .inl x4_3)), (g0, .inl (cy 0, 24, .inl x4_4))] H → va_D A [(h0, .inr (4, [.ref l0, .ref g0, .int x4_1, .int x4_2])), (l0, .inl (cy 0, 24, .inl x4_3)), (g0, .inl (cy 0, 24, .inl x4_4))] → va_S A s.heap H locs → ∀ ls : Array Slot, lv_has ls 3 [(0, .ref h0), (1, .int x4_0), (2, .int (nI k))] → W p l e rmX0_takeAllOutOfWork s m ([.ref h0] : List Value).toArray below meth c H locs 0 0 Q (F0 m 4 ls []) := by
    intro F
    induction F with
    | zero =>
      intro k x4_0 x4_1 x4_2 x4_3 x4_4 hk hF ex4_0 ex4_1 ex4_2 ex4_3 ex4_4 H locs hP hD hS ls hl
      exact absurd hF (Nat.not_lt_zero _)
    | succ F ih4 =>
      intro k x4_0 x4_1 x4_2 x4_3 x4_4 hk hF ex4_0 ex4_1 ex4_2 ex4_3 ex4_4 H locs hP hD hS ls hl
      subst ex4_0
      subst ex4_1
      subst ex4_2
      subst ex4_3
      subst ex4_4
      refine lv_iload_n hx hb dX0_takeAllOutOfWork_4 rfl (lv_at hl 2 rfl) ?_
      refine lv_bipush (v := 24) hx hb dX0_takeAllOutOfWork_5 (by decide) ?_
      refine lv_icmp_ge (tgt := 24) hx hb dX0_takeAllOutOfWork_7 (by decide) (fun c_1 => ?_) (fun c_1 => ?_)
      · have hk2 : 24 ≤ k := (nI_leI (by omega) (by omega)).mp c_1
        obtain rfl : 24 = k := by omega
        refine lv_iload_n hx hb dX0_takeAllOutOfWork_24 rfl (lv_at hl 1 rfl) ?_
        exact ziret hend hx hb hr hlk hK hP hD hS dX0_takeAllOutOfWork_25 rfl rfl
      · have hk2 : k < 24 := Nat.lt_of_not_le (fun z => c_1 (nI_le z (by omega)))
        refine lv_iload_n hx hb dX0_takeAllOutOfWork_10 rfl (lv_at hl 1 rfl) ?_
        refine lv_aload_n hx hb dX0_takeAllOutOfWork_11 rfl (lv_at hl 0 rfl) ?_
        refine lv_iload_n hx hb dX0_takeAllOutOfWork_12 rfl (lv_at hl 2 rfl) ?_
        refine zcV (As := [.int (nI k)]) (rest := [.int (zta lo k)]) [0, 1, 2] 0 hg.1 ⟨hx, hb, hml, hown, hts⟩ (c_X0_takeOutOfWork hg l D cy h0 l0 g0 (zclr lo k) (zclr ag k) (zcm wk k) (zcm hd k) k (by first | assumption | omega)) (cwV 1 hts gX0_takeAllOutOfWork_X0_takeOutOfWork rfl rfl rfl (by decide +kernel) ⟨Nat.le_of_ble_eq_true rfl, Nat.le_of_ble_eq_true rfl⟩) hG hK hP hD hS hA rfl rfl (Eq.trans (b := [h0, l0, g0]) rfl rfl) rfl rfl rfl hl.1 rfl (Nat.le_of_ble_eq_true rfl) dX0_takeAllOutOfWork_13 ⟨Nat.zero_le _, Nat.zero_le _⟩ (fun H locs hP hD hS => ?_)
        have hP : va_P D vwCl [(h0, .inr (4, [.ref l0, .ref g0, .int ((zcm wk k) &&& ((1 <<< (nI k &&& 31)) ^^^ (-1))), .int ((zcm hd k) &&& ((1 <<< (nI k &&& 31)) ^^^ (-1)))])), (l0, .inl (cy 0, 24, .inl (upd (zclr lo k) k 0))), (g0, .inl (cy 0, 24, .inl (upd (zclr ag k) k 0)))] H := hP
        have hD : va_D A [(h0, .inr (4, [.ref l0, .ref g0, .int ((zcm wk k) &&& ((1 <<< (nI k &&& 31)) ^^^ (-1))), .int ((zcm hd k) &&& ((1 <<< (nI k &&& 31)) ^^^ (-1)))])), (l0, .inl (cy 0, 24, .inl (upd (zclr lo k) k 0))), (g0, .inl (cy 0, 24, .inl (upd (zclr ag k) k 0)))] := hD
        refine lv_iadd hx hb dX0_takeAllOutOfWork_16 ?_
        refine lv_istore_n (lv' := [(1, .int ((zta lo k) + ((zclr lo k) k))), (0, .ref h0), (2, .int (nI k))]) hx hb dX0_takeAllOutOfWork_17 rfl hl (by decide) rfl (fun ls hl => ?_)
        refine lv_iinc (v := nI (k + 1)) (lv' := [(2, .int (nI (k + 1))), (1, .int ((zta lo k) + ((zclr lo k) k))), (0, .ref h0)]) hx hb dX0_takeAllOutOfWork_18 hl (k := 2) rfl (by rw [show Int32.ofInt 1 = nI 1 from rfl, nI_add]) (by decide) rfl (fun ls hl => ?_)
        refine lv_goto (tgt := 4) hx hb dX0_takeAllOutOfWork_21 (by decide) ?_
        exact ih4 (k + 1) ((zta lo k) + ((zclr lo k) k)) ((zcm wk k) &&& ((1 <<< (nI k &&& 31)) ^^^ (-1))) ((zcm hd k) &&& ((1 <<< (nI k &&& 31)) ^^^ (-1))) (upd (zclr lo k) k 0) (upd (zclr ag k) k 0) (by omega) (by omega) (by rfl) (by rfl) (by rfl) (by rfl) (by rfl) H locs hP hD hS ls (lv_sub hl [2, 1, 0] rfl)
  exact L4 (24 - 0 + 1) 0 0 wk hd lo ag (by omega) (Nat.lt_succ_self _) (by rfl) (by rfl) (by rfl) (by rfl) (by rfl) s.heap [] hP hD hS ls (lv_sub hl [2, 1, 0] rfl)

abbrev rmX0_putInWork : Room := { frames := 2, cells := 0, slots := 0, locals := 40 }
set_option maxHeartbeats 4000000 in
set_option maxRecDepth 100000 in
theorem c_X0_putInWork {G : zG} (hg : zGN G) (l : Launch) (D : va_G) (cy : Nat → ClassId) (h0 : Nat) (l0 : Nat) (g0 : Nat) (lo : Nat → Int32) (ag : Nat → Int32) (wk : Int32) (hd : Int32) (a : Nat) (b : Nat) (hab : a ≤ b) (hb24 : b < 24) : zM G D vwCl (zT cy) l yX0_putInWork wsX0_putInWork rmX0_putInWork [.ref h0, .int (nI a), .int (nI b)] [(h0, .inr (4, [.ref l0, .ref g0, .int wk, .int hd])), (l0, .inl (cy 0, 24, .inl lo)), (g0, .inl (cy 0, 24, .inl ag))] (some (.int (zpop (zpw wk a (b + 1 - a))))) [(h0, .inr (4, [.ref l0, .ref g0, .int (zpw wk a (b + 1 - a)), .int hd])), (l0, .inl (cy 0, 24, .inl (zpf lo a 1 (b + 1 - a)))), (g0, .inl (cy 0, 24, .inl (zpf ag a 0 (b + 1 - a))))] := by
  refine zM_of (cc := cX0_putInWork) (maxL := 4) (ret := (some .int)) (by decide) rfl (Nat.le_of_ble_eq_true rfl) ?_
  intro p e s m below meth c A Q hend hx hb hml hr hts hown hlk hG hK hP hD hA hS ls hl
  have hown : s.vm.findClass RX0 = some m.cls := hown
  have in_RX0 : ∀ w ∈ u_ws RX0 TX0 4, w ∈ wsX0_putInWork := by decide +kernel
  have hl : lv_has ls 4 [(0, .ref h0), (1, .int (nI a)), (2, .int (nI b))] := hl
  refine lv_iload_n hx hb dX0_putInWork_0 rfl (lv_at hl 1 rfl) ?_
  refine lv_istore_n (lv' := [(3, .int (nI a)), (0, .ref h0), (1, .int (nI a)), (2, .int (nI b))]) hx hb dX0_putInWork_1 rfl hl (by decide) rfl (fun ls hl => ?_)
  have L2 : ∀ (F : Nat) (k : Nat) (n : Nat) (x2_0 : Int32) (x2_1 : Nat → Int32) (x2_2 : Nat → Int32), k ≤ b + 1 → k = a + n → b + 1 - k < F → x2_0 = zpw wk a n → x2_1 = zpf lo a 1 n → x2_2 = zpf ag a 0 n → ∀ (H : Heap) (locs : List Loc), va_P D vwCl [(h0, .inr (4, [.ref l0, .ref g0, .int x2_0, .int hd])), (l0, .inl (cy 0, 24, .inl x2_1)), (g0, .inl (cy 0, 24, .inl x2_2))] H → va_D A [(h0, .inr (4, [.ref l0, .ref g0, .int x2_0, .int hd])), (l0, .inl (cy 0, 24, .inl x2_1)), (g0, .inl (cy 0, 24, .inl x2_2))] → va_S A s.heap H locs → ∀ ls : Array Slot, lv_has ls 4 [(0, .ref h0), (1, .int (nI a)), (2, .int (nI b)), (3, .int (nI k))] → W p l e rmX0_putInWork s m ([.ref h0, .int (nI a), .int (nI b)] : List Value).toArray below meth c H locs 0 0 Q (F0 m 2 ls []) := by
    intro F
    induction F with
    | zero =>
      intro k n x2_0 x2_1 x2_2 hk hn hF ex2_0 ex2_1 ex2_2 H locs hP hD hS ls hl
      exact absurd hF (Nat.not_lt_zero _)
    | succ F ih2 =>
      intro k n x2_0 x2_1 x2_2 hk hn hF ex2_0 ex2_1 ex2_2 H locs hP hD hS ls hl
      subst ex2_0
      subst ex2_1
      subst ex2_2
      refine lv_iload_n hx hb dX0_putInWork_2 rfl (lv_at hl 3 rfl) ?_
      refine lv_iload_n hx hb dX0_putInWork_3 rfl (lv_at hl 2 rfl) ?_
      refine lv_icmp_gt (tgt := 30) hx hb dX0_putInWork_4 (by decide) (fun c_1 => ?_) (fun c_1 => ?_)
      · have hk2 : b < k := (nI_ltI (by omega) (by omega)).mp c_1
        obtain rfl : b + 1 - a = n := by omega
        refine lv_aload_n hx hb dX0_putInWork_30 rfl (lv_at hl 0 rfl) ?_
        refine zcV (As := []) (rest := []) [0, 1, 2] 0 hg.1 ⟨hx, hb, hml, hown, hts⟩ (c_X0_countInWork hg l D cy h0 l0 g0 (zpf lo a 1 (b + 1 - a)) (zpf ag a 0 (b + 1 - a)) (zpw wk a (b + 1 - a)) hd) (cwV 0 hts gX0_putInWork_X0_countInWork rfl rfl rfl (by decide +kernel) ⟨Nat.le_of_ble_eq_true rfl, Nat.le_of_ble_eq_true rfl⟩) hG hK hP hD hS hA rfl rfl rfl rfl rfl rfl hl.1 rfl (Nat.le_of_ble_eq_true rfl) dX0_putInWork_31 ⟨Nat.zero_le _, Nat.zero_le _⟩ (fun H locs hP hD hS => ?_)
        have hP : va_P D vwCl [(h0, .inr (4, [.ref l0, .ref g0, .int (zpw wk a (b + 1 - a)), .int hd])), (l0, .inl (cy 0, 24, .inl (zpf lo a 1 (b + 1 - a)))), (g0, .inl (cy 0, 24, .inl (zpf ag a 0 (b + 1 - a))))] H := hP
        have hD : va_D A [(h0, .inr (4, [.ref l0, .ref g0, .int (zpw wk a (b + 1 - a)), .int hd])), (l0, .inl (cy 0, 24, .inl (zpf lo a 1 (b + 1 - a)))), (g0, .inl (cy 0, 24, .inl (zpf ag a 0 (b + 1 - a))))] := hD
        exact ziret hend hx hb hr hlk hK hP hD hS dX0_putInWork_34 rfl rfl
      · have hk2 : k ≤ b := Nat.le_of_not_lt (fun z => c_1 ((nI_ltI (by omega) (by omega)).mpr z))
        refine lv_aload_n hx hb dX0_putInWork_7 rfl (lv_at hl 0 rfl) ?_
        refine lv_dup hx hb dX0_putInWork_8 rfl ?_
        refine va_get (D := D) (ci := 4) (v := .int (zpw wk a n)) (C := RX0) (T := TX0) (N := 4) hx hb hts in_RX0 hown hK hP 0 rfl rfl 2 (by decide) (hts _ (List.mem_of_getElem? (i := 1) rfl)) (fun _ h9 => h9) rfl dX0_putInWork_9 ?_
        refine lv_iconst (v := 1) hx hb dX0_putInWork_12 (by decide) ?_
        refine lv_iload_n hx hb dX0_putInWork_13 rfl (lv_at hl 3 rfl) ?_
        refine lv_ishl hx hb dX0_putInWork_14 ?_
        refine lv_ior hx hb dX0_putInWork_15 ?_
        refine va_put (D := D) (ci := 4) (v := .int ((zpw wk a n) ||| (1 <<< ((nI k) &&& 31)))) (ty := .int) (C := RX0) (T := TX0) (N := 4) hx hb hts in_RX0 tyX0 tyX0_ok nmX0 hown hK hP hD hS 0 rfl rfl 2 (by decide) (hts _ (List.mem_of_getElem? (i := 1) rfl)) (fun _ h9 => h9) rfl (by decide +kernel) rfl rfl (Nat.le_of_ble_eq_true rfl) dX0_putInWork_16 (fun H locs hP hD hS => ?_)
        have hP : va_P D vwCl [(h0, .inr (4, [.ref l0, .ref g0, .int ((zpw wk a n) ||| (1 <<< ((nI k) &&& 31))), .int hd])), (l0, .inl (cy 0, 24, .inl (zpf lo a 1 n))), (g0, .inl (cy 0, 24, .inl (zpf ag a 0 n)))] H := hP
        have hD : va_D A [(h0, .inr (4, [.ref l0, .ref g0, .int ((zpw wk a n) ||| (1 <<< ((nI k) &&& 31))), .int hd])), (l0, .inl (cy 0, 24, .inl (zpf lo a 1 n))), (g0, .inl (cy 0, 24, .inl (zpf ag a 0 n)))] := hD
        refine lv_aload_n hx hb dX0_putInWork_19 rfl (lv_at hl 0 rfl) ?_
        refine lv_iload_n hx hb dX0_putInWork_20 rfl (lv_at hl 3 rfl) ?_
        refine zcV (As := [.int (nI k)]) (rest := []) [0, 1, 2] 0 hg.1 ⟨hx, hb, hml, hown, hts⟩ (c_X0_putOneLoop hg l D cy h0 l0 g0 (zpf lo a 1 n) (zpf ag a 0 n) ((zpw wk a n) ||| (1 <<< ((nI k) &&& 31))) hd k (by first | assumption | omega)) (cwV 1 hts gX0_putInWork_X0_putOneLoop rfl rfl rfl (by decide +kernel) ⟨Nat.le_of_ble_eq_true rfl, Nat.le_of_ble_eq_true rfl⟩) hG hK hP hD hS hA rfl rfl (Eq.trans (b := [h0, l0, g0]) rfl rfl) rfl rfl rfl hl.1 rfl (Nat.le_of_ble_eq_true rfl) dX0_putInWork_21 ⟨Nat.zero_le _, Nat.zero_le _⟩ (fun H locs hP hD hS => ?_)
        have hP : va_P D vwCl [(h0, .inr (4, [.ref l0, .ref g0, .int ((zpw wk a n) ||| (1 <<< ((nI k) &&& 31))), .int hd])), (l0, .inl (cy 0, 24, .inl (upd (zpf lo a 1 n) k 1))), (g0, .inl (cy 0, 24, .inl (upd (zpf ag a 0 n) k 0)))] H := hP
        have hD : va_D A [(h0, .inr (4, [.ref l0, .ref g0, .int ((zpw wk a n) ||| (1 <<< ((nI k) &&& 31))), .int hd])), (l0, .inl (cy 0, 24, .inl (upd (zpf lo a 1 n) k 1))), (g0, .inl (cy 0, 24, .inl (upd (zpf ag a 0 n) k 0)))] := hD
        refine lv_iinc (v := nI (k + 1)) (lv' := [(3, .int (nI (k + 1))), (0, .ref h0), (1, .int (nI a)), (2, .int (nI b))]) hx hb dX0_putInWork_24 hl (k := 3) rfl (by rw [show Int32.ofInt 1 = nI 1 from rfl, nI_add]) (by decide) rfl (fun ls hl => ?_)
        refine lv_goto (tgt := 2) hx hb dX0_putInWork_27 (by decide) ?_
        exact ih2 (k + 1) (n + 1) ((zpw wk a n) ||| (1 <<< ((nI k) &&& 31))) (upd (zpf lo a 1 n) k 1) (upd (zpf ag a 0 n) k 0) (by omega) (by omega) (by omega) (by simp [zpw, zpf, hn]) (by simp [zpw, zpf, hn]) (by simp [zpw, zpf, hn]) H locs hP hD hS ls (lv_sub hl [1, 2, 3, 0] rfl)
  exact L2 (b + 1 - a + 1) a 0 wk lo ag (by omega) (by omega) (Nat.lt_succ_self _) (by rfl) (by rfl) (by rfl) s.heap [] hP hD hS ls (lv_sub hl [1, 2, 3, 0] rfl)

abbrev rmX0_putOnHold : Room := { frames := 2, cells := 0, slots := 0, locals := 40 }
set_option maxHeartbeats 4000000 in
set_option maxRecDepth 100000 in
theorem c_X0_putOnHold {G : zG} (hg : zGN G) (l : Launch) (D : va_G) (cy : Nat → ClassId) (h0 : Nat) (l0 : Nat) (g0 : Nat) (lo : Nat → Int32) (ag : Nat → Int32) (wk : Int32) (hd : Int32) (k : Nat) (hk : k < 24) : zM G D vwCl (zT cy) l yX0_putOnHold wsX0_putOnHold rmX0_putOnHold [.ref h0, .int (nI k)] [(h0, .inr (4, [.ref l0, .ref g0, .int wk, .int hd])), (l0, .inl (cy 0, 24, .inl lo)), (g0, .inl (cy 0, 24, .inl ag))] (some (.int (zpop (hd ||| (1 <<< (nI k &&& 31)))))) [(h0, .inr (4, [.ref l0, .ref g0, .int wk, .int (hd ||| (1 <<< (nI k &&& 31)))])), (l0, .inl (cy 0, 24, .inl lo)), (g0, .inl (cy 0, 24, .inl ag))] := by
  refine zM_of (cc := cX0_putOnHold) (maxL := 2) (ret := (some .int)) (by decide) rfl (Nat.le_of_ble_eq_true rfl) ?_
  intro p e s m below meth c A Q hend hx hb hml hr hts hown hlk hG hK hP hD hA hS ls hl
  have hown : s.vm.findClass RX0 = some m.cls := hown
  have in_RX0 : ∀ w ∈ u_ws RX0 TX0 4, w ∈ wsX0_putOnHold := by decide +kernel
  have hl : lv_has ls 2 [(0, .ref h0), (1, .int (nI k))] := hl
  refine lv_aload_n hx hb dX0_putOnHold_0 rfl (lv_at hl 0 rfl) ?_
  refine lv_dup hx hb dX0_putOnHold_1 rfl ?_
  refine va_get (D := D) (ci := 4) (v := .int hd) (C := RX0) (T := TX0) (N := 4) hx hb hts in_RX0 hown hK hP 0 rfl rfl 3 (by decide) (hts _ (List.mem_of_getElem? (i := 1) rfl)) (fun _ h9 => h9) rfl dX0_putOnHold_2 ?_
  refine lv_iconst (v := 1) hx hb dX0_putOnHold_5 (by decide) ?_
  refine lv_iload_n hx hb dX0_putOnHold_6 rfl (lv_at hl 1 rfl) ?_
  refine lv_ishl hx hb dX0_putOnHold_7 ?_
  refine lv_ior hx hb dX0_putOnHold_8 ?_
  refine va_put (D := D) (ci := 4) (v := .int (hd ||| (1 <<< ((nI k) &&& 31)))) (ty := .int) (C := RX0) (T := TX0) (N := 4) hx hb hts in_RX0 tyX0 tyX0_ok nmX0 hown hK hP hD hS 0 rfl rfl 3 (by decide) (hts _ (List.mem_of_getElem? (i := 1) rfl)) (fun _ h9 => h9) rfl (by decide +kernel) rfl rfl (Nat.le_of_ble_eq_true rfl) dX0_putOnHold_9 (fun H locs hP hD hS => ?_)
  have hP : va_P D vwCl [(h0, .inr (4, [.ref l0, .ref g0, .int wk, .int (hd ||| (1 <<< ((nI k) &&& 31)))])), (l0, .inl (cy 0, 24, .inl lo)), (g0, .inl (cy 0, 24, .inl ag))] H := hP
  have hD : va_D A [(h0, .inr (4, [.ref l0, .ref g0, .int wk, .int (hd ||| (1 <<< ((nI k) &&& 31)))])), (l0, .inl (cy 0, 24, .inl lo)), (g0, .inl (cy 0, 24, .inl ag))] := hD
  refine lv_aload_n hx hb dX0_putOnHold_12 rfl (lv_at hl 0 rfl) ?_
  refine zcV (As := []) (rest := []) [0, 1, 2] 0 hg.1 ⟨hx, hb, hml, hown, hts⟩ (c_X0_countHeld hg l D cy h0 l0 g0 lo ag wk (hd ||| (1 <<< ((nI k) &&& 31)))) (cwV 0 hts gX0_putOnHold_X0_countHeld rfl rfl rfl (by decide +kernel) ⟨Nat.le_of_ble_eq_true rfl, Nat.le_of_ble_eq_true rfl⟩) hG hK hP hD hS hA rfl rfl rfl rfl rfl rfl hl.1 rfl (Nat.le_of_ble_eq_true rfl) dX0_putOnHold_13 ⟨Nat.zero_le _, Nat.zero_le _⟩ (fun H locs hP hD hS => ?_)
  have hP : va_P D vwCl [(h0, .inr (4, [.ref l0, .ref g0, .int wk, .int (hd ||| (1 <<< ((nI k) &&& 31)))])), (l0, .inl (cy 0, 24, .inl lo)), (g0, .inl (cy 0, 24, .inl ag))] H := hP
  have hD : va_D A [(h0, .inr (4, [.ref l0, .ref g0, .int wk, .int (hd ||| (1 <<< ((nI k) &&& 31)))])), (l0, .inl (cy 0, 24, .inl lo)), (g0, .inl (cy 0, 24, .inl ag))] := hD
  exact ziret hend hx hb hr hlk hK hP hD hS dX0_putOnHold_16 (by rfl) (by rfl)

abbrev rmX0_takeOffHold : Room := { frames := 2, cells := 0, slots := 0, locals := 40 }
set_option maxHeartbeats 4000000 in
set_option maxRecDepth 100000 in
theorem c_X0_takeOffHold {G : zG} (hg : zGN G) (l : Launch) (D : va_G) (cy : Nat → ClassId) (h0 : Nat) (l0 : Nat) (g0 : Nat) (lo : Nat → Int32) (ag : Nat → Int32) (wk : Int32) (hd : Int32) (k : Nat) (hk : k < 24) : zM G D vwCl (zT cy) l yX0_takeOffHold wsX0_takeOffHold rmX0_takeOffHold [.ref h0, .int (nI k)] [(h0, .inr (4, [.ref l0, .ref g0, .int wk, .int hd])), (l0, .inl (cy 0, 24, .inl lo)), (g0, .inl (cy 0, 24, .inl ag))] (some (.int (zpop (hd &&& ((1 <<< (nI k &&& 31)) ^^^ (-1)))))) [(h0, .inr (4, [.ref l0, .ref g0, .int wk, .int (hd &&& ((1 <<< (nI k &&& 31)) ^^^ (-1)))])), (l0, .inl (cy 0, 24, .inl lo)), (g0, .inl (cy 0, 24, .inl ag))] := by
  refine zM_of (cc := cX0_takeOffHold) (maxL := 2) (ret := (some .int)) (by decide) rfl (Nat.le_of_ble_eq_true rfl) ?_
  intro p e s m below meth c A Q hend hx hb hml hr hts hown hlk hG hK hP hD hA hS ls hl
  have hown : s.vm.findClass RX0 = some m.cls := hown
  have in_RX0 : ∀ w ∈ u_ws RX0 TX0 4, w ∈ wsX0_takeOffHold := by decide +kernel
  have hl : lv_has ls 2 [(0, .ref h0), (1, .int (nI k))] := hl
  refine lv_aload_n hx hb dX0_takeOffHold_0 rfl (lv_at hl 0 rfl) ?_
  refine lv_dup hx hb dX0_takeOffHold_1 rfl ?_
  refine va_get (D := D) (ci := 4) (v := .int hd) (C := RX0) (T := TX0) (N := 4) hx hb hts in_RX0 hown hK hP 0 rfl rfl 3 (by decide) (hts _ (List.mem_of_getElem? (i := 1) rfl)) (fun _ h9 => h9) rfl dX0_takeOffHold_2 ?_
  refine lv_iconst (v := 1) hx hb dX0_takeOffHold_5 (by decide) ?_
  refine lv_iload_n hx hb dX0_takeOffHold_6 rfl (lv_at hl 1 rfl) ?_
  refine lv_ishl hx hb dX0_takeOffHold_7 ?_
  refine lv_iconst (v := (-1)) hx hb dX0_takeOffHold_8 (by decide) ?_
  refine lv_ixor hx hb dX0_takeOffHold_9 ?_
  refine lv_iand hx hb dX0_takeOffHold_10 ?_
  refine va_put (D := D) (ci := 4) (v := .int (hd &&& ((1 <<< ((nI k) &&& 31)) ^^^ (-1)))) (ty := .int) (C := RX0) (T := TX0) (N := 4) hx hb hts in_RX0 tyX0 tyX0_ok nmX0 hown hK hP hD hS 0 rfl rfl 3 (by decide) (hts _ (List.mem_of_getElem? (i := 1) rfl)) (fun _ h9 => h9) rfl (by decide +kernel) rfl rfl (Nat.le_of_ble_eq_true rfl) dX0_takeOffHold_11 (fun H locs hP hD hS => ?_)
  have hP : va_P D vwCl [(h0, .inr (4, [.ref l0, .ref g0, .int wk, .int (hd &&& ((1 <<< ((nI k) &&& 31)) ^^^ (-1)))])), (l0, .inl (cy 0, 24, .inl lo)), (g0, .inl (cy 0, 24, .inl ag))] H := hP
  have hD : va_D A [(h0, .inr (4, [.ref l0, .ref g0, .int wk, .int (hd &&& ((1 <<< ((nI k) &&& 31)) ^^^ (-1)))])), (l0, .inl (cy 0, 24, .inl lo)), (g0, .inl (cy 0, 24, .inl ag))] := hD
  refine lv_aload_n hx hb dX0_takeOffHold_14 rfl (lv_at hl 0 rfl) ?_
  refine zcV (As := []) (rest := []) [0, 1, 2] 0 hg.1 ⟨hx, hb, hml, hown, hts⟩ (c_X0_countHeld hg l D cy h0 l0 g0 lo ag wk (hd &&& ((1 <<< ((nI k) &&& 31)) ^^^ (-1)))) (cwV 0 hts gX0_takeOffHold_X0_countHeld rfl rfl rfl (by decide +kernel) ⟨Nat.le_of_ble_eq_true rfl, Nat.le_of_ble_eq_true rfl⟩) hG hK hP hD hS hA rfl rfl rfl rfl rfl rfl hl.1 rfl (Nat.le_of_ble_eq_true rfl) dX0_takeOffHold_15 ⟨Nat.zero_le _, Nat.zero_le _⟩ (fun H locs hP hD hS => ?_)
  have hP : va_P D vwCl [(h0, .inr (4, [.ref l0, .ref g0, .int wk, .int (hd &&& ((1 <<< ((nI k) &&& 31)) ^^^ (-1)))])), (l0, .inl (cy 0, 24, .inl lo)), (g0, .inl (cy 0, 24, .inl ag))] H := hP
  have hD : va_D A [(h0, .inr (4, [.ref l0, .ref g0, .int wk, .int (hd &&& ((1 <<< ((nI k) &&& 31)) ^^^ (-1)))])), (l0, .inl (cy 0, 24, .inl lo)), (g0, .inl (cy 0, 24, .inl ag))] := hD
  exact ziret hend hx hb hr hlk hK hP hD hS dX0_takeOffHold_18 (by rfl) (by rfl)

abbrev rmX0_moveLoops : Room := { frames := 2, cells := 0, slots := 0, locals := 43 }
set_option maxHeartbeats 4000000 in
set_option maxRecDepth 100000 in
theorem c_X0_moveLoops {G : zG} (hg : zGN G) (l : Launch) (D : va_G) (cy : Nat → ClassId) (h0 : Nat) (l0 : Nat) (g0 : Nat) (lo : Nat → Int32) (ag : Nat → Int32) (wk : Int32) (hd : Int32) (i : Nat) (j : Nat) (hi : i < 24) (hj : j < 24) (hij : i ≠ j) : zM G D vwCl (zT cy) l yX0_moveLoops wsX0_moveLoops rmX0_moveLoops [.ref h0, .int (nI i), .int (nI j)] [(h0, .inr (4, [.ref l0, .ref g0, .int wk, .int hd])), (l0, .inl (cy 0, 24, .inl lo)), (g0, .inl (cy 0, 24, .inl ag))] (some (.int (lo j + lo i))) [(h0, .inr (4, [.ref l0, .ref g0, .int (wk &&& ((1 <<< (nI i &&& 31)) ^^^ (-1))), .int (hd &&& ((1 <<< (nI i &&& 31)) ^^^ (-1)))])), (l0, .inl (cy 0, 24, .inl (upd (upd lo i 0) j (lo j + lo i)))), (g0, .inl (cy 0, 24, .inl (upd (upd ag j (if ag i < ag j then ag j else ag i)) i 0)))] := by
  refine zM_of (cc := cX0_moveLoops) (maxL := 4) (ret := (some .int)) (by decide) rfl (Nat.le_of_ble_eq_true rfl) ?_
  intro p e s m below meth c A Q hend hx hb hml hr hts hown hlk hG hK hP hD hA hS ls hl
  have hown : s.vm.findClass RX0 = some m.cls := hown
  have in_RX0 : ∀ w ∈ u_ws RX0 TX0 4, w ∈ wsX0_moveLoops := by decide +kernel
  have hl : lv_has ls 4 [(0, .ref h0), (1, .int (nI i)), (2, .int (nI j))] := hl
  refine lv_aload_n hx hb dX0_moveLoops_0 rfl (lv_at hl 0 rfl) ?_
  refine va_get (D := D) (ci := 4) (v := .ref g0) (C := RX0) (T := TX0) (N := 4) hx hb hts in_RX0 hown hK hP 0 rfl rfl 1 (by decide) (hts _ (List.mem_of_getElem? (i := 1) rfl)) (fun _ h9 => h9) rfl dX0_moveLoops_1 ?_
  refine lv_iload_n hx hb dX0_moveLoops_4 rfl (lv_at hl 2 rfl) ?_
  refine lv_aload_n hx hb dX0_moveLoops_5 rfl (lv_at hl 0 rfl) ?_
  refine va_get (D := D) (ci := 4) (v := .ref g0) (C := RX0) (T := TX0) (N := 4) hx hb hts in_RX0 hown hK hP 0 rfl rfl 1 (by decide) (hts _ (List.mem_of_getElem? (i := 1) rfl)) (fun _ h9 => h9) rfl dX0_moveLoops_6 ?_
  refine lv_iload_n hx hb dX0_moveLoops_9 rfl (lv_at hl 1 rfl) ?_
  refine ziald 2 0 i hx hb hK hP rfl rfl (by omega) (z_lt rfl) dX0_moveLoops_10 ?_
  refine lv_aload_n hx hb dX0_moveLoops_11 rfl (lv_at hl 0 rfl) ?_
  refine va_get (D := D) (ci := 4) (v := .ref g0) (C := RX0) (T := TX0) (N := 4) hx hb hts in_RX0 hown hK hP 0 rfl rfl 1 (by decide) (hts _ (List.mem_of_getElem? (i := 1) rfl)) (fun _ h9 => h9) rfl dX0_moveLoops_12 ?_
  refine lv_iload_n hx hb dX0_moveLoops_15 rfl (lv_at hl 2 rfl) ?_
  refine ziald 2 0 j hx hb hK hP rfl rfl (by omega) (z_lt rfl) dX0_moveLoops_16 ?_
  refine va_mmax hx hb (hml.trans hl.1.symm) hown (hts _ (List.mem_of_getElem? (i := 2) rfl)) (hts _ (List.mem_of_getElem? (i := 3) rfl)) (hts _ (List.mem_of_getElem? (i := 4) rfl)) (hts _ (List.mem_of_getElem? (i := 5) rfl)) (Nat.le_of_ble_eq_true rfl) (Nat.le_of_ble_eq_true rfl) (Nat.zero_le _) (Nat.zero_le _) dX0_moveLoops_17 ?_
  refine ziast 2 0 j hx hb hK hP hD hS rfl rfl (by omega) (z_lt rfl) dX0_moveLoops_20 (fun H locs hP hD hS => ?_)
  have hP : va_P D vwCl [(h0, .inr (4, [.ref l0, .ref g0, .int wk, .int hd])), (l0, .inl (cy 0, 24, .inl lo)), (g0, .inl (cy 0, 24, .inl (upd ag j (if ag i < ag j then ag j else ag i))))] H := hP
  have hD : va_D A [(h0, .inr (4, [.ref l0, .ref g0, .int wk, .int hd])), (l0, .inl (cy 0, 24, .inl lo)), (g0, .inl (cy 0, 24, .inl (upd ag j (if ag i < ag j then ag j else ag i))))] := hD
  refine lv_aload_n hx hb dX0_moveLoops_21 rfl (lv_at hl 0 rfl) ?_
  refine lv_iload_n hx hb dX0_moveLoops_22 rfl (lv_at hl 1 rfl) ?_
  refine zcV (As := [.int (nI i)]) (rest := []) [0, 1, 2] 0 hg.1 ⟨hx, hb, hml, hown, hts⟩ (c_X0_takeOutOfWork hg l D cy h0 l0 g0 lo (upd ag j (if ag i < ag j then ag j else ag i)) wk hd i (by first | assumption | omega)) (cwV 1 hts gX0_moveLoops_X0_takeOutOfWork rfl rfl rfl (by decide +kernel) ⟨Nat.le_of_ble_eq_true rfl, Nat.le_of_ble_eq_true rfl⟩) hG hK hP hD hS hA rfl rfl (Eq.trans (b := [h0, l0, g0]) rfl rfl) rfl rfl rfl hl.1 rfl (Nat.le_of_ble_eq_true rfl) dX0_moveLoops_23 ⟨Nat.zero_le _, Nat.zero_le _⟩ (fun H locs hP hD hS => ?_)
  have hP : va_P D vwCl [(h0, .inr (4, [.ref l0, .ref g0, .int (wk &&& ((1 <<< (nI i &&& 31)) ^^^ (-1))), .int (hd &&& ((1 <<< (nI i &&& 31)) ^^^ (-1)))])), (l0, .inl (cy 0, 24, .inl (upd lo i 0))), (g0, .inl (cy 0, 24, .inl (upd (upd ag j (if ag i < ag j then ag j else ag i)) i 0)))] H := hP
  have hD : va_D A [(h0, .inr (4, [.ref l0, .ref g0, .int (wk &&& ((1 <<< (nI i &&& 31)) ^^^ (-1))), .int (hd &&& ((1 <<< (nI i &&& 31)) ^^^ (-1)))])), (l0, .inl (cy 0, 24, .inl (upd lo i 0))), (g0, .inl (cy 0, 24, .inl (upd (upd ag j (if ag i < ag j then ag j else ag i)) i 0)))] := hD
  refine lv_istore_n (lv' := [(3, .int (lo i)), (0, .ref h0), (1, .int (nI i)), (2, .int (nI j))]) hx hb dX0_moveLoops_26 rfl hl (by decide) rfl (fun ls hl => ?_)
  refine lv_aload_n hx hb dX0_moveLoops_27 rfl (lv_at hl 1 rfl) ?_
  refine va_get (D := D) (ci := 4) (v := .ref l0) (C := RX0) (T := TX0) (N := 4) hx hb hts in_RX0 hown hK hP 0 rfl rfl 0 (by decide) (hts _ (List.mem_of_getElem? (i := 6) rfl)) (fun _ h9 => h9) rfl dX0_moveLoops_28 ?_
  refine lv_iload_n hx hb dX0_moveLoops_31 rfl (lv_at hl 3 rfl) ?_
  refine lv_dup2_11 hx hb dX0_moveLoops_32 rfl rfl ?_
  refine ziald 1 0 j hx hb hK hP rfl rfl (by omega) (z_lt rfl) dX0_moveLoops_33 ?_
  refine lv_iload_n hx hb dX0_moveLoops_34 rfl (lv_at hl 0 rfl) ?_
  refine lv_iadd hx hb dX0_moveLoops_35 ?_
  refine ziast 1 0 j hx hb hK hP hD hS rfl rfl (by omega) (z_lt rfl) dX0_moveLoops_36 (fun H locs hP hD hS => ?_)
  have hP : va_P D vwCl [(h0, .inr (4, [.ref l0, .ref g0, .int (wk &&& ((1 <<< (nI i &&& 31)) ^^^ (-1))), .int (hd &&& ((1 <<< (nI i &&& 31)) ^^^ (-1)))])), (l0, .inl (cy 0, 24, .inl (upd (upd lo i 0) j (((upd lo i 0) j) + (lo i))))), (g0, .inl (cy 0, 24, .inl (upd (upd ag j (if ag i < ag j then ag j else ag i)) i 0)))] H := hP
  have hD : va_D A [(h0, .inr (4, [.ref l0, .ref g0, .int (wk &&& ((1 <<< (nI i &&& 31)) ^^^ (-1))), .int (hd &&& ((1 <<< (nI i &&& 31)) ^^^ (-1)))])), (l0, .inl (cy 0, 24, .inl (upd (upd lo i 0) j (((upd lo i 0) j) + (lo i))))), (g0, .inl (cy 0, 24, .inl (upd (upd ag j (if ag i < ag j then ag j else ag i)) i 0)))] := hD
  refine lv_aload_n hx hb dX0_moveLoops_37 rfl (lv_at hl 1 rfl) ?_
  refine va_get (D := D) (ci := 4) (v := .ref l0) (C := RX0) (T := TX0) (N := 4) hx hb hts in_RX0 hown hK hP 0 rfl rfl 0 (by decide) (hts _ (List.mem_of_getElem? (i := 6) rfl)) (fun _ h9 => h9) rfl dX0_moveLoops_38 ?_
  refine lv_iload_n hx hb dX0_moveLoops_41 rfl (lv_at hl 3 rfl) ?_
  refine ziald 1 0 j hx hb hK hP rfl rfl (by omega) (z_lt rfl) dX0_moveLoops_42 ?_
  exact ziret hend hx hb hr hlk hK hP hD hS dX0_moveLoops_43 (by simp [upd, Ne.symm hij]) (by simp [upd, Ne.symm hij])

abbrev rmX0_growOlder : Room := { frames := 1, cells := 0, slots := 0, locals := 22 }
set_option maxHeartbeats 4000000 in
set_option maxRecDepth 100000 in
theorem c_X0_growOlder {G : zG} (hg : zGN G) (l : Launch) (D : va_G) (cy : Nat → ClassId) (h0 : Nat) (l0 : Nat) (g0 : Nat) (lo : Nat → Int32) (ag : Nat → Int32) (wk : Int32) (hd : Int32) (k : Nat) (hk : k < 24) : zM G D vwCl (zT cy) l yX0_growOlder wsX0_growOlder rmX0_growOlder [.ref h0, .int (nI k)] [(h0, .inr (4, [.ref l0, .ref g0, .int wk, .int hd])), (l0, .inl (cy 0, 24, .inl lo)), (g0, .inl (cy 0, 24, .inl ag))] (some (.int (zgd lo ag k))) [(h0, .inr (4, [.ref l0, .ref g0, .int wk, .int hd])), (l0, .inl (cy 0, 24, .inl (zgl lo ag k))), (g0, .inl (cy 0, 24, .inl (zga ag k)))] := by
  refine zM_of (cc := cX0_growOlder) (maxL := 2) (ret := (some .int)) (by decide) rfl (Nat.le_of_ble_eq_true rfl) ?_
  intro p e s m below meth c A Q hend hx hb hml hr hts hown hlk hG hK hP hD hA hS ls hl
  have hown : s.vm.findClass RX0 = some m.cls := hown
  have in_RX0 : ∀ w ∈ u_ws RX0 TX0 4, w ∈ wsX0_growOlder := by decide +kernel
  have hl : lv_has ls 2 [(0, .ref h0), (1, .int (nI k))] := hl
  refine lv_aload_n hx hb dX0_growOlder_0 rfl (lv_at hl 0 rfl) ?_
  refine va_get (D := D) (ci := 4) (v := .ref g0) (C := RX0) (T := TX0) (N := 4) hx hb hts in_RX0 hown hK hP 0 rfl rfl 1 (by decide) (hts _ (List.mem_of_getElem? (i := 1) rfl)) (fun _ h9 => h9) rfl dX0_growOlder_1 ?_
  refine lv_iload_n hx hb dX0_growOlder_4 rfl (lv_at hl 1 rfl) ?_
  refine lv_dup2_11 hx hb dX0_growOlder_5 rfl rfl ?_
  refine ziald 2 0 k hx hb hK hP rfl rfl (by omega) (z_lt rfl) dX0_growOlder_6 ?_
  refine lv_iconst (v := 1) hx hb dX0_growOlder_7 (by decide) ?_
  refine lv_iadd hx hb dX0_growOlder_8 ?_
  refine ziast 2 0 k hx hb hK hP hD hS rfl rfl (by omega) (z_lt rfl) dX0_growOlder_9 (fun H locs hP hD hS => ?_)
  have hP : va_P D vwCl [(h0, .inr (4, [.ref l0, .ref g0, .int wk, .int hd])), (l0, .inl (cy 0, 24, .inl lo)), (g0, .inl (cy 0, 24, .inl (upd ag k ((ag k) + 1))))] H := hP
  have hD : va_D A [(h0, .inr (4, [.ref l0, .ref g0, .int wk, .int hd])), (l0, .inl (cy 0, 24, .inl lo)), (g0, .inl (cy 0, 24, .inl (upd ag k ((ag k) + 1))))] := hD
  refine lv_aload_n hx hb dX0_growOlder_10 rfl (lv_at hl 0 rfl) ?_
  refine va_get (D := D) (ci := 4) (v := .ref g0) (C := RX0) (T := TX0) (N := 4) hx hb hts in_RX0 hown hK hP 0 rfl rfl 1 (by decide) (hts _ (List.mem_of_getElem? (i := 1) rfl)) (fun _ h9 => h9) rfl dX0_growOlder_11 ?_
  refine lv_iload_n hx hb dX0_growOlder_14 rfl (lv_at hl 1 rfl) ?_
  refine ziald 2 0 k hx hb hK hP rfl rfl (by omega) (z_lt rfl) dX0_growOlder_15 ?_
  refine lv_bipush (v := 6) hx hb dX0_growOlder_16 (by decide) ?_
  refine lv_icmp_lt (tgt := 29) hx hb dX0_growOlder_18 (by decide) (fun c_1 => ?_) (fun c_1 => ?_)
  · refine lv_iconst (v := 0) hx hb dX0_growOlder_29 (by decide) ?_
    exact ziret hend hx hb hr hlk hK hP hD hS dX0_growOlder_30 (by first | (simp only [zgd, c_1, decide_true, decide_false, Bool.not_true, Bool.not_false, Bool.and_true, Bool.true_and, Bool.and_false, Bool.false_and, Bool.or_false, Bool.false_or, Bool.or_true, Bool.true_or, ↓reduceIte, Bool.false_eq_true, not_true_eq_false, not_false_eq_true, and_self]; done) | (simp [zgd, c_1]; done) | (simp_all [zgd]; done)) (by first | (simp only [zgl, zga, c_1, decide_true, decide_false, Bool.not_true, Bool.not_false, Bool.and_true, Bool.true_and, Bool.and_false, Bool.false_and, Bool.or_false, Bool.false_or, Bool.or_true, Bool.true_or, ↓reduceIte, Bool.false_eq_true, not_true_eq_false, not_false_eq_true, and_self]; done) | (simp [zgl, zga, c_1]; done) | (simp_all [zgl, zga]; done))
  · refine lv_aload_n hx hb dX0_growOlder_21 rfl (lv_at hl 0 rfl) ?_
    refine lv_iload_n hx hb dX0_growOlder_22 rfl (lv_at hl 1 rfl) ?_
    refine zcV (As := [.int (nI k)]) (rest := []) [0, 1, 2] 0 hg.1 ⟨hx, hb, hml, hown, hts⟩ (c_X0_takeLoops hg l D cy h0 l0 g0 lo (upd ag k ((ag k) + 1)) wk hd k (by first | assumption | omega)) (cwV 1 hts gX0_growOlder_X0_takeLoops rfl rfl rfl (by decide +kernel) ⟨Nat.le_of_ble_eq_true rfl, Nat.le_of_ble_eq_true rfl⟩) hG hK hP hD hS hA rfl rfl (Eq.trans (b := [h0, l0, g0]) rfl rfl) rfl rfl rfl hl.1 rfl (Nat.le_of_ble_eq_true rfl) dX0_growOlder_23 ⟨Nat.zero_le _, Nat.zero_le _⟩ (fun H locs hP hD hS => ?_)
    have hP : va_P D vwCl [(h0, .inr (4, [.ref l0, .ref g0, .int wk, .int hd])), (l0, .inl (cy 0, 24, .inl (upd lo k 0))), (g0, .inl (cy 0, 24, .inl (upd (upd ag k ((ag k) + 1)) k 0)))] H := hP
    have hD : va_D A [(h0, .inr (4, [.ref l0, .ref g0, .int wk, .int hd])), (l0, .inl (cy 0, 24, .inl (upd lo k 0))), (g0, .inl (cy 0, 24, .inl (upd (upd ag k ((ag k) + 1)) k 0)))] := hD
    refine lv_goto (tgt := 30) hx hb dX0_growOlder_26 (by decide) ?_
    exact ziret hend hx hb hr hlk hK hP hD hS dX0_growOlder_30 (by first | (simp only [zgd, c_1, decide_true, decide_false, Bool.not_true, Bool.not_false, Bool.and_true, Bool.true_and, Bool.and_false, Bool.false_and, Bool.or_false, Bool.false_or, Bool.or_true, Bool.true_or, ↓reduceIte, Bool.false_eq_true, not_true_eq_false, not_false_eq_true, and_self]; done) | (simp [zgd, c_1]; done) | (simp_all [zgd]; done)) (by first | (simp only [zgl, zga, c_1, decide_true, decide_false, Bool.not_true, Bool.not_false, Bool.and_true, Bool.true_and, Bool.and_false, Bool.false_and, Bool.or_false, Bool.false_or, Bool.or_true, Bool.true_or, ↓reduceIte, Bool.false_eq_true, not_true_eq_false, not_false_eq_true, and_self]; done) | (simp [zgl, zga, c_1]; done) | (simp_all [zgl, zga]; done))

abbrev rmX0_passCourse : Room := { frames := 2, cells := 0, slots := 0, locals := 43 }
set_option maxHeartbeats 4000000 in
set_option maxRecDepth 100000 in
theorem c_X0_passCourse {G : zG} (hg : zGN G) (l : Launch) (D : va_G) (cy : Nat → ClassId) (h0 : Nat) (l0 : Nat) (g0 : Nat) (lo : Nat → Int32) (ag : Nat → Int32) (wk : Int32) (hd : Int32) (row : Int32) : zM G D vwCl (zT cy) l yX0_passCourse wsX0_passCourse rmX0_passCourse [.ref h0, .int row] [(h0, .inr (4, [.ref l0, .ref g0, .int wk, .int hd])), (l0, .inl (cy 0, 24, .inl lo)), (g0, .inl (cy 0, 24, .inl ag))] (some (.int (zpcD lo ag wk hd row 24))) [(h0, .inr (4, [.ref l0, .ref g0, .int wk, .int hd])), (l0, .inl (cy 0, 24, .inl (zpcL lo ag wk hd row 24))), (g0, .inl (cy 0, 24, .inl (zpcA lo ag wk hd row 24)))] := by
  refine zM_of (cc := cX0_passCourse) (maxL := 4) (ret := (some .int)) (by decide) rfl (Nat.le_of_ble_eq_true rfl) ?_
  intro p e s m below meth c A Q hend hx hb hml hr hts hown hlk hG hK hP hD hA hS ls hl
  have hown : s.vm.findClass RX0 = some m.cls := hown
  have in_RX0 : ∀ w ∈ u_ws RX0 TX0 4, w ∈ wsX0_passCourse := by decide +kernel
  have hl : lv_has ls 4 [(0, .ref h0), (1, .int row)] := hl
  refine lv_iconst (v := 0) hx hb dX0_passCourse_0 (by decide) ?_
  refine lv_istore_n (lv' := [(2, .int 0), (0, .ref h0), (1, .int row)]) hx hb dX0_passCourse_1 rfl hl (by decide) rfl (fun ls hl => ?_)
  refine lv_iconst (v := 0) hx hb dX0_passCourse_2 (by decide) ?_
  refine lv_istore_n (lv' := [(3, .int 0), (2, .int 0), (0, .ref h0), (1, .int row)]) hx hb dX0_passCourse_3 rfl hl (by decide) rfl (fun ls hl => ?_)
  have L4 : ∀ (F : Nat) (k : Nat) (x4_0 : Int32) (x4_1 : Nat → Int32) (x4_2 : Nat → Int32), k ≤ 24 → 24 - k < F → x4_0 = zpcD lo ag wk hd row k → x4_1 = zpcL lo ag wk hd row k → x4_2 = zpcA lo ag wk hd row k → ∀ (H : Heap) (locs : List Loc), va_P D vwCl [(h0, .inr (4, [.ref l0, .ref g0, .int wk, .int hd])), (l0, .inl (cy 0, 24, .inl x4_1)), (g0, .inl (cy 0, 24, .inl x4_2))] H → va_D A [(h0, .inr (4, [.ref l0, .ref g0, .int wk, .int hd])), (l0, .inl (cy 0, 24, .inl x4_1)), (g0, .inl (cy 0, 24, .inl x4_2))] → va_S A s.heap H locs → ∀ ls : Array Slot, lv_has ls 4 [(0, .ref h0), (1, .int row), (2, .int x4_0), (3, .int (nI k))] → W p l e rmX0_passCourse s m ([.ref h0, .int row] : List Value).toArray below meth c H locs 0 0 Q (F0 m 4 ls []) := by
    intro F
    induction F with
    | zero =>
      intro k x4_0 x4_1 x4_2 hk hF ex4_0 ex4_1 ex4_2 H locs hP hD hS ls hl
      exact absurd hF (Nat.not_lt_zero _)
    | succ F ih4 =>
      intro k x4_0 x4_1 x4_2 hk hF ex4_0 ex4_1 ex4_2 H locs hP hD hS ls hl
      subst ex4_0
      subst ex4_1
      subst ex4_2
      refine lv_iload_n hx hb dX0_passCourse_4 rfl (lv_at hl 3 rfl) ?_
      refine lv_bipush (v := 24) hx hb dX0_passCourse_5 (by decide) ?_
      refine lv_icmp_ge (tgt := 50) hx hb dX0_passCourse_7 (by decide) (fun c_1 => ?_) (fun c_1 => ?_)
      · have hk2 : 24 ≤ k := (nI_leI (by omega) (by omega)).mp c_1
        obtain rfl : 24 = k := by omega
        refine lv_iload_n hx hb dX0_passCourse_50 rfl (lv_at hl 2 rfl) ?_
        exact ziret hend hx hb hr hlk hK hP hD hS dX0_passCourse_51 rfl rfl
      · have hk2 : k < 24 := Nat.lt_of_not_le (fun z => c_1 (nI_le z (by omega)))
        refine lv_aload_n hx hb dX0_passCourse_10 rfl (lv_at hl 0 rfl) ?_
        refine lv_iload_n hx hb dX0_passCourse_11 rfl (lv_at hl 3 rfl) ?_
        refine lv_iload_n hx hb dX0_passCourse_12 rfl (lv_at hl 1 rfl) ?_
        refine zcV (As := [.int (nI k), .int row]) (rest := []) [0, 1, 2] 0 hg.1 ⟨hx, hb, hml, hown, hts⟩ (c_X0_knits hg l D cy h0 l0 g0 (zpcL lo ag wk hd row k) (zpcA lo ag wk hd row k) wk hd k row (by first | assumption | omega)) (cwV 2 hts gX0_passCourse_X0_knits rfl rfl rfl (by decide +kernel) ⟨Nat.le_of_ble_eq_true rfl, Nat.le_of_ble_eq_true rfl⟩) hG hK hP hD hS hA rfl rfl rfl rfl rfl rfl hl.1 rfl (Nat.le_of_ble_eq_true rfl) dX0_passCourse_13 ⟨Nat.zero_le _, Nat.zero_le _⟩ (fun H locs hP hD hS => ?_)
        have hP : va_P D vwCl [(h0, .inr (4, [.ref l0, .ref g0, .int wk, .int hd])), (l0, .inl (cy 0, 24, .inl (zpcL lo ag wk hd row k))), (g0, .inl (cy 0, 24, .inl (zpcA lo ag wk hd row k)))] H := hP
        have hD : va_D A [(h0, .inr (4, [.ref l0, .ref g0, .int wk, .int hd])), (l0, .inl (cy 0, 24, .inl (zpcL lo ag wk hd row k))), (g0, .inl (cy 0, 24, .inl (zpcA lo ag wk hd row k)))] := hD
        refine lv_if_eq (tgt := 27) hx hb dX0_passCourse_16 (by decide) (fun c_2 => ?_) (fun c_2 => ?_)
        · replace c_2 := zI0 c_2
          refine lv_aload_n hx hb dX0_passCourse_27 rfl (lv_at hl 0 rfl) ?_
          refine va_get (D := D) (ci := 4) (v := .ref l0) (C := RX0) (T := TX0) (N := 4) hx hb hts in_RX0 hown hK hP 0 rfl rfl 0 (by decide) (hts _ (List.mem_of_getElem? (i := 1) rfl)) (fun _ h9 => h9) rfl dX0_passCourse_28 ?_
          refine lv_iload_n hx hb dX0_passCourse_31 rfl (lv_at hl 3 rfl) ?_
          refine ziald 1 0 k hx hb hK hP rfl rfl (by omega) (z_lt rfl) dX0_passCourse_32 ?_
          refine lv_if_le (tgt := 44) hx hb dX0_passCourse_33 (by decide) (fun c_3 => ?_) (fun c_3 => ?_)
          · refine lv_iinc (v := nI (k + 1)) (lv' := [(3, .int (nI (k + 1))), (0, .ref h0), (1, .int row), (2, .int (zpcD lo ag wk hd row k))]) hx hb dX0_passCourse_44 hl (k := 3) rfl (by rw [show Int32.ofInt 1 = nI 1 from rfl, nI_add]) (by decide) rfl (fun ls hl => ?_)
            refine lv_goto (tgt := 4) hx hb dX0_passCourse_47 (by decide) ?_
            exact ih4 (k + 1) (zpcD lo ag wk hd row k) (zpcL lo ag wk hd row k) (zpcA lo ag wk hd row k) (by omega) (by omega) (by first | (simp only [zpcL_s, zpcA_s, zpcD_s, c_1, c_2, c_3, decide_true, decide_false, Bool.not_true, Bool.not_false, Bool.and_true, Bool.true_and, Bool.and_false, Bool.false_and, Bool.or_false, Bool.false_or, Bool.or_true, Bool.true_or, ↓reduceIte, Bool.false_eq_true, not_true_eq_false, not_false_eq_true, and_self]; done) | (simp [zpcL_s, zpcA_s, zpcD_s, c_1, c_2, c_3]; done) | (simp_all [zpcL_s, zpcA_s, zpcD_s]; done)) (by first | (simp only [zpcL_s, zpcA_s, zpcD_s, c_1, c_2, c_3, decide_true, decide_false, Bool.not_true, Bool.not_false, Bool.and_true, Bool.true_and, Bool.and_false, Bool.false_and, Bool.or_false, Bool.false_or, Bool.or_true, Bool.true_or, ↓reduceIte, Bool.false_eq_true, not_true_eq_false, not_false_eq_true, and_self]; done) | (simp [zpcL_s, zpcA_s, zpcD_s, c_1, c_2, c_3]; done) | (simp_all [zpcL_s, zpcA_s, zpcD_s]; done)) (by first | (simp only [zpcL_s, zpcA_s, zpcD_s, c_1, c_2, c_3, decide_true, decide_false, Bool.not_true, Bool.not_false, Bool.and_true, Bool.true_and, Bool.and_false, Bool.false_and, Bool.or_false, Bool.false_or, Bool.or_true, Bool.true_or, ↓reduceIte, Bool.false_eq_true, not_true_eq_false, not_false_eq_true, and_self]; done) | (simp [zpcL_s, zpcA_s, zpcD_s, c_1, c_2, c_3]; done) | (simp_all [zpcL_s, zpcA_s, zpcD_s]; done)) H locs hP hD hS ls (lv_sub hl [1, 2, 3, 0] rfl)
          · refine lv_iload_n hx hb dX0_passCourse_36 rfl (lv_at hl 2 rfl) ?_
            refine lv_aload_n hx hb dX0_passCourse_37 rfl (lv_at hl 0 rfl) ?_
            refine lv_iload_n hx hb dX0_passCourse_38 rfl (lv_at hl 3 rfl) ?_
            refine zcV (As := [.int (nI k)]) (rest := [.int (zpcD lo ag wk hd row k)]) [0, 1, 2] 0 hg.1 ⟨hx, hb, hml, hown, hts⟩ (c_X0_growOlder hg l D cy h0 l0 g0 (zpcL lo ag wk hd row k) (zpcA lo ag wk hd row k) wk hd k (by first | assumption | omega)) (cwV 1 hts gX0_passCourse_X0_growOlder rfl rfl rfl (by decide +kernel) ⟨Nat.le_of_ble_eq_true rfl, Nat.le_of_ble_eq_true rfl⟩) hG hK hP hD hS hA rfl rfl (Eq.trans (b := [h0, l0, g0]) rfl rfl) rfl rfl rfl hl.1 rfl (Nat.le_of_ble_eq_true rfl) dX0_passCourse_39 ⟨Nat.zero_le _, Nat.zero_le _⟩ (fun H locs hP hD hS => ?_)
            have hP : va_P D vwCl [(h0, .inr (4, [.ref l0, .ref g0, .int wk, .int hd])), (l0, .inl (cy 0, 24, .inl (zgl (zpcL lo ag wk hd row k) (zpcA lo ag wk hd row k) k))), (g0, .inl (cy 0, 24, .inl (zga (zpcA lo ag wk hd row k) k)))] H := hP
            have hD : va_D A [(h0, .inr (4, [.ref l0, .ref g0, .int wk, .int hd])), (l0, .inl (cy 0, 24, .inl (zgl (zpcL lo ag wk hd row k) (zpcA lo ag wk hd row k) k))), (g0, .inl (cy 0, 24, .inl (zga (zpcA lo ag wk hd row k) k)))] := hD
            refine lv_iadd hx hb dX0_passCourse_42 ?_
            refine lv_istore_n (lv' := [(2, .int ((zpcD lo ag wk hd row k) + (zgd (zpcL lo ag wk hd row k) (zpcA lo ag wk hd row k) k))), (0, .ref h0), (1, .int row), (3, .int (nI k))]) hx hb dX0_passCourse_43 rfl hl (by decide) rfl (fun ls hl => ?_)
            refine lv_iinc (v := nI (k + 1)) (lv' := [(3, .int (nI (k + 1))), (2, .int ((zpcD lo ag wk hd row k) + (zgd (zpcL lo ag wk hd row k) (zpcA lo ag wk hd row k) k))), (0, .ref h0), (1, .int row)]) hx hb dX0_passCourse_44 hl (k := 3) rfl (by rw [show Int32.ofInt 1 = nI 1 from rfl, nI_add]) (by decide) rfl (fun ls hl => ?_)
            refine lv_goto (tgt := 4) hx hb dX0_passCourse_47 (by decide) ?_
            exact ih4 (k + 1) ((zpcD lo ag wk hd row k) + (zgd (zpcL lo ag wk hd row k) (zpcA lo ag wk hd row k) k)) (zgl (zpcL lo ag wk hd row k) (zpcA lo ag wk hd row k) k) (zga (zpcA lo ag wk hd row k) k) (by omega) (by omega) (by first | (simp only [zpcL_s, zpcA_s, zpcD_s, c_1, c_2, c_3, decide_true, decide_false, Bool.not_true, Bool.not_false, Bool.and_true, Bool.true_and, Bool.and_false, Bool.false_and, Bool.or_false, Bool.false_or, Bool.or_true, Bool.true_or, ↓reduceIte, Bool.false_eq_true, not_true_eq_false, not_false_eq_true, and_self]; done) | (simp [zpcL_s, zpcA_s, zpcD_s, c_1, c_2, c_3]; done) | (simp_all [zpcL_s, zpcA_s, zpcD_s]; done)) (by first | (simp only [zpcL_s, zpcA_s, zpcD_s, c_1, c_2, c_3, decide_true, decide_false, Bool.not_true, Bool.not_false, Bool.and_true, Bool.true_and, Bool.and_false, Bool.false_and, Bool.or_false, Bool.false_or, Bool.or_true, Bool.true_or, ↓reduceIte, Bool.false_eq_true, not_true_eq_false, not_false_eq_true, and_self]; done) | (simp [zpcL_s, zpcA_s, zpcD_s, c_1, c_2, c_3]; done) | (simp_all [zpcL_s, zpcA_s, zpcD_s]; done)) (by first | (simp only [zpcL_s, zpcA_s, zpcD_s, c_1, c_2, c_3, decide_true, decide_false, Bool.not_true, Bool.not_false, Bool.and_true, Bool.true_and, Bool.and_false, Bool.false_and, Bool.or_false, Bool.false_or, Bool.or_true, Bool.true_or, ↓reduceIte, Bool.false_eq_true, not_true_eq_false, not_false_eq_true, and_self]; done) | (simp [zpcL_s, zpcA_s, zpcD_s, c_1, c_2, c_3]; done) | (simp_all [zpcL_s, zpcA_s, zpcD_s]; done)) H locs hP hD hS ls (lv_sub hl [2, 3, 1, 0] rfl)
        · replace c_2 := zI1 c_2
          refine lv_aload_n hx hb dX0_passCourse_19 rfl (lv_at hl 0 rfl) ?_
          refine lv_iload_n hx hb dX0_passCourse_20 rfl (lv_at hl 3 rfl) ?_
          refine zcV (As := [.int (nI k)]) (rest := []) [0, 1, 2] 0 hg.1 ⟨hx, hb, hml, hown, hts⟩ (c_X0_putOneLoop hg l D cy h0 l0 g0 (zpcL lo ag wk hd row k) (zpcA lo ag wk hd row k) wk hd k (by first | assumption | omega)) (cwV 1 hts gX0_passCourse_X0_putOneLoop rfl rfl rfl (by decide +kernel) ⟨Nat.le_of_ble_eq_true rfl, Nat.le_of_ble_eq_true rfl⟩) hG hK hP hD hS hA rfl rfl (Eq.trans (b := [h0, l0, g0]) rfl rfl) rfl rfl rfl hl.1 rfl (Nat.le_of_ble_eq_true rfl) dX0_passCourse_21 ⟨Nat.zero_le _, Nat.zero_le _⟩ (fun H locs hP hD hS => ?_)
          have hP : va_P D vwCl [(h0, .inr (4, [.ref l0, .ref g0, .int wk, .int hd])), (l0, .inl (cy 0, 24, .inl (upd (zpcL lo ag wk hd row k) k 1))), (g0, .inl (cy 0, 24, .inl (upd (zpcA lo ag wk hd row k) k 0)))] H := hP
          have hD : va_D A [(h0, .inr (4, [.ref l0, .ref g0, .int wk, .int hd])), (l0, .inl (cy 0, 24, .inl (upd (zpcL lo ag wk hd row k) k 1))), (g0, .inl (cy 0, 24, .inl (upd (zpcA lo ag wk hd row k) k 0)))] := hD
          refine lv_goto (tgt := 44) hx hb dX0_passCourse_24 (by decide) ?_
          refine lv_iinc (v := nI (k + 1)) (lv' := [(3, .int (nI (k + 1))), (0, .ref h0), (1, .int row), (2, .int (zpcD lo ag wk hd row k))]) hx hb dX0_passCourse_44 hl (k := 3) rfl (by rw [show Int32.ofInt 1 = nI 1 from rfl, nI_add]) (by decide) rfl (fun ls hl => ?_)
          refine lv_goto (tgt := 4) hx hb dX0_passCourse_47 (by decide) ?_
          exact ih4 (k + 1) (zpcD lo ag wk hd row k) (upd (zpcL lo ag wk hd row k) k 1) (upd (zpcA lo ag wk hd row k) k 0) (by omega) (by omega) (by first | (simp only [zpcL_s, zpcA_s, zpcD_s, c_1, c_2, decide_true, decide_false, Bool.not_true, Bool.not_false, Bool.and_true, Bool.true_and, Bool.and_false, Bool.false_and, Bool.or_false, Bool.false_or, Bool.or_true, Bool.true_or, ↓reduceIte, Bool.false_eq_true, not_true_eq_false, not_false_eq_true, and_self]; done) | (simp [zpcL_s, zpcA_s, zpcD_s, c_1, c_2]; done) | (simp_all [zpcL_s, zpcA_s, zpcD_s]; done)) (by first | (simp only [zpcL_s, zpcA_s, zpcD_s, c_1, c_2, decide_true, decide_false, Bool.not_true, Bool.not_false, Bool.and_true, Bool.true_and, Bool.and_false, Bool.false_and, Bool.or_false, Bool.false_or, Bool.or_true, Bool.true_or, ↓reduceIte, Bool.false_eq_true, not_true_eq_false, not_false_eq_true, and_self]; done) | (simp [zpcL_s, zpcA_s, zpcD_s, c_1, c_2]; done) | (simp_all [zpcL_s, zpcA_s, zpcD_s]; done)) (by first | (simp only [zpcL_s, zpcA_s, zpcD_s, c_1, c_2, decide_true, decide_false, Bool.not_true, Bool.not_false, Bool.and_true, Bool.true_and, Bool.and_false, Bool.false_and, Bool.or_false, Bool.false_or, Bool.or_true, Bool.true_or, ↓reduceIte, Bool.false_eq_true, not_true_eq_false, not_false_eq_true, and_self]; done) | (simp [zpcL_s, zpcA_s, zpcD_s, c_1, c_2]; done) | (simp_all [zpcL_s, zpcA_s, zpcD_s]; done)) H locs hP hD hS ls (lv_sub hl [1, 2, 3, 0] rfl)
  exact L4 (24 - 0 + 1) 0 0 lo ag (by omega) (Nat.lt_succ_self _) (by rfl) (by rfl) (by rfl) s.heap [] hP hD hS ls (lv_sub hl [2, 3, 1, 0] rfl)

abbrev rmX0_copyFrom : Room := { frames := 1, cells := 0, slots := 0, locals := 60 }
set_option maxHeartbeats 4000000 in
set_option maxRecDepth 100000 in
theorem c_X0_copyFrom {G : zG} (hg : zGN G) (l : Launch) (D : va_G) (cy : Nat → ClassId) (h0 : Nat) (l0 : Nat) (g0 : Nat) (lo : Nat → Int32) (ag : Nat → Int32) (wk : Int32) (hd : Int32) (h1 : Nat) (l1 : Nat) (g1 : Nat) (lo1 : Nat → Int32) (ag1 : Nat → Int32) (wk1 : Int32) (hd1 : Int32) : zM G D vwCl (zT cy) l yX0_copyFrom wsX0_copyFrom rmX0_copyFrom [.ref h0, .ref h1] [(h0, .inr (4, [.ref l0, .ref g0, .int wk, .int hd])), (l0, .inl (cy 0, 24, .inl lo)), (g0, .inl (cy 0, 24, .inl ag)), (h1, .inr (4, [.ref l1, .ref g1, .int wk1, .int hd1])), (l1, .inl (cy 0, 24, .inl lo1)), (g1, .inl (cy 0, 24, .inl ag1))] none [(h0, .inr (4, [.ref l0, .ref g0, .int wk1, .int hd1])), (l0, .inl (cy 0, 24, .inl lo1)), (g0, .inl (cy 0, 24, .inl ag1)), (h1, .inr (4, [.ref l1, .ref g1, .int wk1, .int hd1])), (l1, .inl (cy 0, 24, .inl lo1)), (g1, .inl (cy 0, 24, .inl ag1))] := by
  refine zM_of (cc := cX0_copyFrom) (maxL := 2) (ret := none) (by decide) rfl (Nat.le_of_ble_eq_true rfl) ?_
  intro p e s m below meth c A Q hend hx hb hml hr hts hown hlk hG hK hP hD hA hS ls hl
  have hown : s.vm.findClass RX0 = some m.cls := hown
  have in_RX0 : ∀ w ∈ u_ws RX0 TX0 4, w ∈ wsX0_copyFrom := by decide +kernel
  have hl : lv_has ls 2 [(0, .ref h0), (1, .ref h1)] := hl
  refine lv_aload_n hx hb dX0_copyFrom_0 rfl (lv_at hl 1 rfl) ?_
  refine va_get (D := D) (ci := 4) (v := .ref l1) (C := RX0) (T := TX0) (N := 4) hx hb hts in_RX0 hown hK hP 3 rfl rfl 0 (by decide) (hts _ (List.mem_of_getElem? (i := 1) rfl)) (fun _ h9 => h9) rfl dX0_copyFrom_1 ?_
  refine lv_iconst (v := 0) hx hb dX0_copyFrom_4 (by decide) ?_
  refine lv_aload_n hx hb dX0_copyFrom_5 rfl (lv_at hl 0 rfl) ?_
  refine va_get (D := D) (ci := 4) (v := .ref l0) (C := RX0) (T := TX0) (N := 4) hx hb hts in_RX0 hown hK hP 0 rfl rfl 0 (by decide) (hts _ (List.mem_of_getElem? (i := 1) rfl)) (fun _ h9 => h9) rfl dX0_copyFrom_6 ?_
  refine lv_iconst (v := 0) hx hb dX0_copyFrom_9 (by decide) ?_
  refine lv_bipush (v := 24) hx hb dX0_copyFrom_10 (by decide) ?_
  refine zcopy 4 1 24 hx hb (hml.trans hl.1.symm) hown (hts _ (List.mem_of_getElem? (i := 2) rfl)) (hts _ (List.mem_of_getElem? (i := 3) rfl)) (hts _ (List.mem_of_getElem? (i := 4) rfl)) (hts _ (List.mem_of_getElem? (i := 5) rfl)) hK hP hD hS rfl rfl rfl (by decide) (by decide) (Nat.le_of_ble_eq_true rfl) (Nat.le_of_ble_eq_true rfl) dX0_copyFrom_12 (fun H locs hP hD hS => ?_)
  have hP : va_P D vwCl [(h0, .inr (4, [.ref l0, .ref g0, .int wk, .int hd])), (l0, .inl (cy 0, 24, .inl lo1)), (g0, .inl (cy 0, 24, .inl ag)), (h1, .inr (4, [.ref l1, .ref g1, .int wk1, .int hd1])), (l1, .inl (cy 0, 24, .inl lo1)), (g1, .inl (cy 0, 24, .inl ag1))] H := hP
  have hD : va_D A [(h0, .inr (4, [.ref l0, .ref g0, .int wk, .int hd])), (l0, .inl (cy 0, 24, .inl lo1)), (g0, .inl (cy 0, 24, .inl ag)), (h1, .inr (4, [.ref l1, .ref g1, .int wk1, .int hd1])), (l1, .inl (cy 0, 24, .inl lo1)), (g1, .inl (cy 0, 24, .inl ag1))] := hD
  refine lv_aload_n hx hb dX0_copyFrom_15 rfl (lv_at hl 1 rfl) ?_
  refine va_get (D := D) (ci := 4) (v := .ref g1) (C := RX0) (T := TX0) (N := 4) hx hb hts in_RX0 hown hK hP 3 rfl rfl 1 (by decide) (hts _ (List.mem_of_getElem? (i := 6) rfl)) (fun _ h9 => h9) rfl dX0_copyFrom_16 ?_
  refine lv_iconst (v := 0) hx hb dX0_copyFrom_19 (by decide) ?_
  refine lv_aload_n hx hb dX0_copyFrom_20 rfl (lv_at hl 0 rfl) ?_
  refine va_get (D := D) (ci := 4) (v := .ref g0) (C := RX0) (T := TX0) (N := 4) hx hb hts in_RX0 hown hK hP 0 rfl rfl 1 (by decide) (hts _ (List.mem_of_getElem? (i := 6) rfl)) (fun _ h9 => h9) rfl dX0_copyFrom_21 ?_
  refine lv_iconst (v := 0) hx hb dX0_copyFrom_24 (by decide) ?_
  refine lv_bipush (v := 24) hx hb dX0_copyFrom_25 (by decide) ?_
  refine zcopy 5 2 24 hx hb (hml.trans hl.1.symm) hown (hts _ (List.mem_of_getElem? (i := 2) rfl)) (hts _ (List.mem_of_getElem? (i := 3) rfl)) (hts _ (List.mem_of_getElem? (i := 4) rfl)) (hts _ (List.mem_of_getElem? (i := 5) rfl)) hK hP hD hS rfl rfl rfl (by decide) (by decide) (Nat.le_of_ble_eq_true rfl) (Nat.le_of_ble_eq_true rfl) dX0_copyFrom_27 (fun H locs hP hD hS => ?_)
  have hP : va_P D vwCl [(h0, .inr (4, [.ref l0, .ref g0, .int wk, .int hd])), (l0, .inl (cy 0, 24, .inl lo1)), (g0, .inl (cy 0, 24, .inl ag1)), (h1, .inr (4, [.ref l1, .ref g1, .int wk1, .int hd1])), (l1, .inl (cy 0, 24, .inl lo1)), (g1, .inl (cy 0, 24, .inl ag1))] H := hP
  have hD : va_D A [(h0, .inr (4, [.ref l0, .ref g0, .int wk, .int hd])), (l0, .inl (cy 0, 24, .inl lo1)), (g0, .inl (cy 0, 24, .inl ag1)), (h1, .inr (4, [.ref l1, .ref g1, .int wk1, .int hd1])), (l1, .inl (cy 0, 24, .inl lo1)), (g1, .inl (cy 0, 24, .inl ag1))] := hD
  refine lv_aload_n hx hb dX0_copyFrom_30 rfl (lv_at hl 0 rfl) ?_
  refine lv_aload_n hx hb dX0_copyFrom_31 rfl (lv_at hl 1 rfl) ?_
  refine va_get (D := D) (ci := 4) (v := .int wk1) (C := RX0) (T := TX0) (N := 4) hx hb hts in_RX0 hown hK hP 3 rfl rfl 2 (by decide) (hts _ (List.mem_of_getElem? (i := 7) rfl)) (fun _ h9 => h9) rfl dX0_copyFrom_32 ?_
  refine va_put (D := D) (ci := 4) (v := .int wk1) (ty := .int) (C := RX0) (T := TX0) (N := 4) hx hb hts in_RX0 tyX0 tyX0_ok nmX0 hown hK hP hD hS 0 rfl rfl 2 (by decide) (hts _ (List.mem_of_getElem? (i := 7) rfl)) (fun _ h9 => h9) rfl (by decide +kernel) rfl rfl (Nat.le_of_ble_eq_true rfl) dX0_copyFrom_35 (fun H locs hP hD hS => ?_)
  have hP : va_P D vwCl [(h0, .inr (4, [.ref l0, .ref g0, .int wk1, .int hd])), (l0, .inl (cy 0, 24, .inl lo1)), (g0, .inl (cy 0, 24, .inl ag1)), (h1, .inr (4, [.ref l1, .ref g1, .int wk1, .int hd1])), (l1, .inl (cy 0, 24, .inl lo1)), (g1, .inl (cy 0, 24, .inl ag1))] H := hP
  have hD : va_D A [(h0, .inr (4, [.ref l0, .ref g0, .int wk1, .int hd])), (l0, .inl (cy 0, 24, .inl lo1)), (g0, .inl (cy 0, 24, .inl ag1)), (h1, .inr (4, [.ref l1, .ref g1, .int wk1, .int hd1])), (l1, .inl (cy 0, 24, .inl lo1)), (g1, .inl (cy 0, 24, .inl ag1))] := hD
  refine lv_aload_n hx hb dX0_copyFrom_38 rfl (lv_at hl 0 rfl) ?_
  refine lv_aload_n hx hb dX0_copyFrom_39 rfl (lv_at hl 1 rfl) ?_
  refine va_get (D := D) (ci := 4) (v := .int hd1) (C := RX0) (T := TX0) (N := 4) hx hb hts in_RX0 hown hK hP 3 rfl rfl 3 (by decide) (hts _ (List.mem_of_getElem? (i := 8) rfl)) (fun _ h9 => h9) rfl dX0_copyFrom_40 ?_
  refine va_put (D := D) (ci := 4) (v := .int hd1) (ty := .int) (C := RX0) (T := TX0) (N := 4) hx hb hts in_RX0 tyX0 tyX0_ok nmX0 hown hK hP hD hS 0 rfl rfl 3 (by decide) (hts _ (List.mem_of_getElem? (i := 8) rfl)) (fun _ h9 => h9) rfl (by decide +kernel) rfl rfl (Nat.le_of_ble_eq_true rfl) dX0_copyFrom_43 (fun H locs hP hD hS => ?_)
  have hP : va_P D vwCl [(h0, .inr (4, [.ref l0, .ref g0, .int wk1, .int hd1])), (l0, .inl (cy 0, 24, .inl lo1)), (g0, .inl (cy 0, 24, .inl ag1)), (h1, .inr (4, [.ref l1, .ref g1, .int wk1, .int hd1])), (l1, .inl (cy 0, 24, .inl lo1)), (g1, .inl (cy 0, 24, .inl ag1))] H := hP
  have hD : va_D A [(h0, .inr (4, [.ref l0, .ref g0, .int wk1, .int hd1])), (l0, .inl (cy 0, 24, .inl lo1)), (g0, .inl (cy 0, 24, .inl ag1)), (h1, .inr (4, [.ref l1, .ref g1, .int wk1, .int hd1])), (l1, .inl (cy 0, 24, .inl lo1)), (g1, .inl (cy 0, 24, .inl ag1))] := hD
  exact zvret hend hx hb hr hlk hK hP hD hS dX0_copyFrom_46 rfl
