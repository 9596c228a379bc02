/-- a byte that is a sign of the text -/
def zch (x : Int32) : Prop := ((x &&& 255).toUInt32 % 65536).toInt32 = x
def zml (n : Nat) (ml : Int32) : Int32 := if n = 0 then ml else 1
theorem nI_sub_le {a b : Nat} (h : a ≤ b) (hb : b < 2 ^ 30) : nI a - nI b ≤ 0 := by
  rw [Int32.le_iff_toInt_le, pk_sub_toInt (by omega) (by omega), Int32.toInt_zero]
  omega
theorem zneg_le {a b : Nat} (ha : a < 2 ^ 31) (hb : b < 2 ^ 31) : -(nI a) ≤ -(nI b) ↔ b ≤ a := sb_nle ha hb
theorem zdec1 (a : Nat) : nI (a + 1) + Int32.ofInt (-1) = nI a := by rw [show Int32.ofInt (-1) = (-1 : Int32) by decide]; exact sb_m1 (Nat.succ_pos a)
theorem zby1 : ∀ {k : Nat}, k < 100 → vp_nar .byte (zdg1 k) = nI (48 + k % 10) := by
  intro k hk
  have h : ∀ j : Fin 100, vp_nar .byte (zdg1 j.1) = nI (48 + j.1 % 10) := by decide +kernel
  exact h ⟨k, hk⟩
theorem zby2 : ∀ {k : Nat}, k < 100 → vp_nar .byte (zdg2 k) = nI (48 + k / 10) := by
  intro k hk
  have h : ∀ j : Fin 100, vp_nar .byte (zdg2 j.1) = nI (48 + j.1 / 10) := by decide +kernel
  exact h ⟨k, hk⟩
abbrev rmJ5_length_8abf5 : Room := { frames := 0, cells := 0, slots := 0, locals := 0 }
set_option maxHeartbeats 4000000 in
set_option maxRecDepth 100000 in
theorem c_J5_length_8abf5 {G : zG} (hg : zGN G) (l : Launch) (D : va_G) (cy : Nat → ClassId) (o8 : Nat) (b8 : Nat) (ml : Int32) (nn : Nat) : zM G D vwCl (zT cy) l yJ5_length_8abf5 wsJ5_length_8abf5 rmJ5_length_8abf5 [.ref o8] [(o8, .inr (1, [.ref b8, .int 0, .int ml, .int (nI nn)]))] (some (.int (nI nn))) [(o8, .inr (1, [.ref b8, .int 0, .int ml, .int (nI nn)]))] := by
  refine zM_of (cc := cJ5_length_8abf5) (maxL := 1) (ret := (some .int)) (by decide) rfl (Nat.le_of_ble_eq_true rfl) ?_
  intro p e s m below meth c A Q hend hx hb hml hr hts hown hlk hG hK hP hD hA hS ls hl
  have hown : s.vm.findClass RJ5 = some m.cls := hown
  have in_RJ4 : ∀ w ∈ u_ws RJ4 TJ4 4, w ∈ wsJ5_length_8abf5 := by decide +kernel
  have hl : lv_has ls 1 [(0, .ref o8)] := hl
  refine lv_aload_n hx hb dJ5_length_8abf5_0 rfl (lv_at hl 0 rfl) ?_
  refine va_get (D := D) (ci := 1) (v := .int (nI nn)) (C := RJ4) (T := TJ4) (N := 4) hx hb hts in_RJ4 hown hK hP 0 rfl rfl 3 (by decide) (hts _ (List.mem_of_getElem? (i := 1) rfl)) (fun _ h9 => h9) rfl dJ5_length_8abf5_1 ?_
  exact ziret hend hx hb hr hlk hK hP hD hS dJ5_length_8abf5_4 rfl rfl

abbrev rmJ4_length_8abf5 : Room := { frames := 1, cells := 0, slots := 0, locals := 20 }
set_option maxHeartbeats 4000000 in
set_option maxRecDepth 100000 in
theorem c_J4_length_8abf5 {G : zG} (hg : zGN G) (l : Launch) (D : va_G) (cy : Nat → ClassId) (o8 : Nat) (b8 : Nat) (ml : Int32) (nn : Nat) : zM G D vwCl (zT cy) l yJ4_length_8abf5 wsJ4_length_8abf5 rmJ4_length_8abf5 [.ref o8] [(o8, .inr (1, [.ref b8, .int 0, .int ml, .int (nI nn)]))] (some (.int (nI nn))) [(o8, .inr (1, [.ref b8, .int 0, .int ml, .int (nI nn)]))] := by
  refine zM_of (cc := cJ4_length_8abf5) (maxL := 1) (ret := (some .int)) (by decide) rfl (Nat.le_of_ble_eq_true rfl) ?_
  intro p e s m below meth c A Q hend hx hb hml hr hts hown hlk hG hK hP hD hA hS ls hl
  have hown : s.vm.findClass RJ4 = some m.cls := hown
  have hl : lv_has ls 1 [(0, .ref o8)] := hl
  refine lv_aload_n hx hb dJ4_length_8abf5_0 rfl (lv_at hl 0 rfl) ?_
  refine zcSU (As := []) (rest := []) [0] 0 hg.1 ⟨hx, hb, hml, hown, hts⟩ (c_J5_length_8abf5 hg l D cy o8 b8 ml nn) (va_cwSU 0 hts gJ4_length_8abf5_J5_length_8abf5_s343 rfl rfl rfl (by decide +kernel) ⟨Nat.le_of_ble_eq_true rfl, Nat.le_of_ble_eq_true rfl⟩) hG hK hP hD hS hA rfl rfl rfl rfl rfl rfl hl.1 rfl (Nat.le_of_ble_eq_true rfl) dJ4_length_8abf5_1 ⟨Nat.zero_le _, Nat.zero_le _⟩ (fun H locs hP hD hS => ?_)
  have hP : va_P D vwCl [(o8, .inr (1, [.ref b8, .int 0, .int ml, .int (nI nn)]))] H := hP
  have hD : va_D A [(o8, .inr (1, [.ref b8, .int 0, .int ml, .int (nI nn)]))] := hD
  exact ziret hend hx hb hr hlk hK hP hD hS dJ4_length_8abf5_4 rfl rfl

abbrev rmJ5_isLatin1_aae02 : Room := { frames := 0, cells := 0, slots := 0, locals := 0 }
set_option maxHeartbeats 4000000 in
set_option maxRecDepth 100000 in
theorem c_J5_isLatin1_aae02 {G : zG} (hg : zGJ G) (l : Launch) (D : va_G) (cy : Nat → ClassId) (o8 : Nat) (b8 : Nat) (ml : Int32) (nn : Nat) : zM G D vwCl (zT cy) l yJ5_isLatin1_aae02 wsJ5_isLatin1_aae02 rmJ5_isLatin1_aae02 [.ref o8] [(o8, .inr (1, [.ref b8, .int 0, .int ml, .int (nI nn)]))] (some (.int 1)) [(o8, .inr (1, [.ref b8, .int 0, .int ml, .int (nI nn)]))] := by
  refine zM_of (cc := cJ5_isLatin1_aae02) (maxL := 1) (ret := (some .boolean)) (by decide) rfl (Nat.le_of_ble_eq_true rfl) ?_
  intro p e s m below meth c A Q hend hx hb hml hr hts hown hlk hG hK hP hD hA hS ls hl
  have hown : s.vm.findClass RJ5 = some m.cls := hown
  have in_RJ4 : ∀ w ∈ u_ws RJ4 TJ4 4, w ∈ wsJ5_isLatin1_aae02 := by decide +kernel
  have hl : lv_has ls 1 [(0, .ref o8)] := hl
  refine va_gets hx hb (hg.2 A s hG).1 hS hown (hts _ (List.mem_of_getElem? (i := 1) rfl)) (fun _ h9 => h9) dJ5_isLatin1_aae02_0 ?_
  refine lv_if_eq (tgt := 17) hx hb dJ5_isLatin1_aae02_3 (by decide) (fun c_1 => ?_) (fun c_1 => ?_)
  · exact absurd c_1 (by decide)
  · refine lv_aload_n hx hb dJ5_isLatin1_aae02_6 rfl (lv_at hl 0 rfl) ?_
    refine va_get (D := D) (ci := 1) (v := .int 0) (C := RJ4) (T := TJ4) (N := 4) hx hb hts in_RJ4 hown hK hP 0 rfl rfl 1 (by decide) (hts _ (List.mem_of_getElem? (i := 2) rfl)) (fun _ h9 => h9) rfl dJ5_isLatin1_aae02_7 ?_
    refine lv_if_ne (tgt := 17) hx hb dJ5_isLatin1_aae02_10 (by decide) (fun c_2 => ?_) (fun c_2 => ?_)
    · exact absurd c_2 (by decide)
    · refine lv_iconst (v := 1) hx hb dJ5_isLatin1_aae02_13 (by decide) ?_
      refine lv_goto (tgt := 18) hx hb dJ5_isLatin1_aae02_14 (by decide) ?_
      exact zzret hend hx hb hr hlk hK hP hD hS dJ5_isLatin1_aae02_18 rfl rfl rfl

abbrev rmJ3_checkIndex_8e157_n : Room := { frames := 0, cells := 0, slots := 0, locals := 0 }
set_option maxHeartbeats 4000000 in
set_option maxRecDepth 100000 in
theorem c_J3_checkIndex_8e157_n {G : zG} (hg : zGN G) (l : Launch) (D : va_G) (cy : Nat → ClassId) (a : Nat) (nn : Nat) (ha : a < nn) (hnn : nn < 2 ^ 31) : zM G D vwCl (zT cy) l yJ3_checkIndex_8e157 wsJ3_checkIndex_8e157 rmJ3_checkIndex_8e157_n [.int (nI a), .int (nI nn), .null] [] (some (.int (nI a))) [] := by
  refine zM_of (cc := cJ3_checkIndex_8e157) (maxL := 3) (ret := (some .int)) (by decide) rfl (Nat.le_of_ble_eq_true rfl) ?_
  intro p e s m below meth c A Q hend hx hb hml hr hts hown hlk hG hK hP hD hA hS ls hl
  have hown : s.vm.findClass RJ3 = some m.cls := hown
  have hl : lv_has ls 3 [(0, .int (nI a)), (1, .int (nI nn)), (2, .null)] := hl
  refine lv_iload_n hx hb dJ3_checkIndex_8e157_0 rfl (lv_at hl 0 rfl) ?_
  refine lv_if_lt (tgt := 9) hx hb dJ3_checkIndex_8e157_1 (by decide) (fun c_1 => ?_) (fun c_1 => ?_)
  · exact absurd c_1 (nI_pos (by omega))
  · refine lv_iload_n hx hb dJ3_checkIndex_8e157_4 rfl (lv_at hl 0 rfl) ?_
    refine lv_iload_n hx hb dJ3_checkIndex_8e157_5 rfl (lv_at hl 1 rfl) ?_
    refine lv_icmp_lt (tgt := 16) hx hb dJ3_checkIndex_8e157_6 (by decide) (fun c_2 => ?_) (fun c_2 => ?_)
    · refine lv_iload_n hx hb dJ3_checkIndex_8e157_16 rfl (lv_at hl 0 rfl) ?_
      exact ziret hend hx hb hr hlk hK hP hD hS dJ3_checkIndex_8e157_17 rfl rfl
    · exact absurd (nI_lt ha hnn) c_2

abbrev rmJ3_checkIndex_8e157_r : Room := { frames := 0, cells := 0, slots := 0, locals := 0 }
set_option maxHeartbeats 4000000 in
set_option maxRecDepth 100000 in
theorem c_J3_checkIndex_8e157_r {G : zG} (hg : zGN G) (l : Launch) (D : va_G) (cy : Nat → ClassId) (a : Nat) (nn : Nat) (t9 : Nat) (ha : a < nn) (hnn : nn < 2 ^ 31) : zM G D vwCl (zT cy) l yJ3_checkIndex_8e157 wsJ3_checkIndex_8e157 rmJ3_checkIndex_8e157_r [.int (nI a), .int (nI nn), .ref t9] [] (some (.int (nI a))) [] := by
  refine zM_of (cc := cJ3_checkIndex_8e157) (maxL := 3) (ret := (some .int)) (by decide) rfl (Nat.le_of_ble_eq_true rfl) ?_
  intro p e s m below meth c A Q hend hx hb hml hr hts hown hlk hG hK hP hD hA hS ls hl
  have hown : s.vm.findClass RJ3 = some m.cls := hown
  have hl : lv_has ls 3 [(0, .int (nI a)), (1, .int (nI nn)), (2, .ref t9)] := hl
  refine lv_iload_n hx hb dJ3_checkIndex_8e157_0 rfl (lv_at hl 0 rfl) ?_
  refine lv_if_lt (tgt := 9) hx hb dJ3_checkIndex_8e157_1 (by decide) (fun c_1 => ?_) (fun c_1 => ?_)
  · exact absurd c_1 (nI_pos (by omega))
  · refine lv_iload_n hx hb dJ3_checkIndex_8e157_4 rfl (lv_at hl 0 rfl) ?_
    refine lv_iload_n hx hb dJ3_checkIndex_8e157_5 rfl (lv_at hl 1 rfl) ?_
    refine lv_icmp_lt (tgt := 16) hx hb dJ3_checkIndex_8e157_6 (by decide) (fun c_2 => ?_) (fun c_2 => ?_)
    · refine lv_iload_n hx hb dJ3_checkIndex_8e157_16 rfl (lv_at hl 0 rfl) ?_
      exact ziret hend hx hb hr hlk hK hP hD hS dJ3_checkIndex_8e157_17 rfl rfl
    · exact absurd (nI_lt ha hnn) c_2

abbrev rmJ0_checkIndex_df160 : Room := { frames := 1, cells := 0, slots := 0, locals := 22 }
set_option maxHeartbeats 4000000 in
set_option maxRecDepth 100000 in
theorem c_J0_checkIndex_df160 {G : zG} (hg : zGJ G) (l : Launch) (D : va_G) (cy : Nat → ClassId) (a : Nat) (nn : Nat) (ha : a < nn) (hnn : nn < 2 ^ 31) : zM G D vwCl (zT cy) l yJ0_checkIndex_df160 wsJ0_checkIndex_df160 rmJ0_checkIndex_df160 [.int (nI a), .int (nI nn)] [] none [] := by
  refine zM_of (cc := cJ0_checkIndex_df160) (maxL := 2) (ret := none) (by decide) rfl (Nat.le_of_ble_eq_true rfl) ?_
  intro p e s m below meth c A Q hend hx hb hml hr hts hown hlk hG hK hP hD hA hS ls hl
  have hown : s.vm.findClass RJ0 = some m.cls := hown
  have hl : lv_has ls 2 [(0, .int (nI a)), (1, .int (nI nn))] := hl
  refine lv_iload_n hx hb dJ0_checkIndex_df160_0 rfl (lv_at hl 0 rfl) ?_
  refine lv_iload_n hx hb dJ0_checkIndex_df160_1 rfl (lv_at hl 1 rfl) ?_
  rcases (hg.2 A s hG).2.1 with hz9 | ⟨t9, hz9⟩
  · refine va_gets hx hb hz9 hS hown (hts _ (List.mem_of_getElem? (i := 1) rfl)) (fun _ h9 => h9) dJ0_checkIndex_df160_2 ?_
    refine zcS (As := [.int (nI a), .int (nI nn), .null]) (rest := []) [] hg.1.1 ⟨hx, hb, hml, hown, hts⟩ (c_J3_checkIndex_8e157_n hg.1 l D cy a nn (by first | assumption | omega) (by first | assumption | omega)) (va_cwS 3 hts gJ0_checkIndex_df160_J3_checkIndex_8e157 rfl rfl rfl (by decide +kernel) ⟨Nat.le_of_ble_eq_true rfl, Nat.le_of_ble_eq_true rfl⟩) hG hK hP hD hS hA rfl rfl rfl  rfl hl.1 rfl (Nat.le_of_ble_eq_true rfl) dJ0_checkIndex_df160_5 ⟨Nat.zero_le _, Nat.zero_le _⟩ (fun H locs hP hD hS => ?_)
    have hP : va_P D vwCl [] H := hP
    have hD : va_D A [] := hD
    refine lv_pop hx hb dJ0_checkIndex_df160_8 rfl ?_
    exact zvret hend hx hb hr hlk hK hP hD hS dJ0_checkIndex_df160_9 rfl
  · refine va_gets hx hb hz9 hS hown (hts _ (List.mem_of_getElem? (i := 1) rfl)) (fun _ h9 => h9) dJ0_checkIndex_df160_2 ?_
    refine zcS (As := [.int (nI a), .int (nI nn), .ref t9]) (rest := []) [] hg.1.1 ⟨hx, hb, hml, hown, hts⟩ (c_J3_checkIndex_8e157_r hg.1 l D cy a nn t9 (by first | assumption | omega) (by first | assumption | omega)) (va_cwS 3 hts gJ0_checkIndex_df160_J3_checkIndex_8e157 rfl rfl rfl (by decide +kernel) ⟨Nat.le_of_ble_eq_true rfl, Nat.le_of_ble_eq_true rfl⟩) hG hK hP hD hS hA rfl rfl rfl  rfl hl.1 rfl (Nat.le_of_ble_eq_true rfl) dJ0_checkIndex_df160_5 ⟨Nat.zero_le _, Nat.zero_le _⟩ (fun H locs hP hD hS => ?_)
    have hP : va_P D vwCl [] H := hP
    have hD : va_D A [] := hD
    refine lv_pop hx hb dJ0_checkIndex_df160_8 rfl ?_
    exact zvret hend hx hb hr hlk hK hP hD hS dJ0_checkIndex_df160_9 rfl

abbrev rmJ5_charAt_5068e : Room := { frames := 2, cells := 0, slots := 0, locals := 43 }
set_option maxHeartbeats 4000000 in
set_option maxRecDepth 100000 in
theorem c_J5_charAt_5068e {G : zG} (hg : zGJ G) (l : Launch) (D : va_G) (cy : Nat → ClassId) (o8 : Nat) (b8 : Nat) (ml : Int32) (nn : Nat) (bx : Nat → Int32) (mm : Nat) (a : Nat) (hnm : nn ≤ mm) (hmm : mm ≤ 100) (ha : a < nn) (hch : ∀ j, j < nn → zch (bx j)) : zM G D vwCl (zT cy) l yJ5_charAt_5068e wsJ5_charAt_5068e rmJ5_charAt_5068e [.ref o8, .int (nI a)] [(o8, .inr (1, [.ref b8, .int 0, .int ml, .int (nI nn)])), (b8, .inl (cy 1, mm, .inl bx))] (some (.int (bx a))) [(o8, .inr (1, [.ref b8, .int 0, .int ml, .int (nI nn)])), (b8, .inl (cy 1, mm, .inl bx))] := by
  refine zM_of (cc := cJ5_charAt_5068e) (maxL := 5) (ret := (some .char)) (by decide) rfl (Nat.le_of_ble_eq_true rfl) ?_
  intro p e s m below meth c A Q hend hx hb hml hr hts hown hlk hG hK hP hD hA hS ls hl
  have hown : s.vm.findClass RJ5 = some m.cls := hown
  have in_RJ4 : ∀ w ∈ u_ws RJ4 TJ4 4, w ∈ wsJ5_charAt_5068e := by decide +kernel
  have hl : lv_has ls 5 [(0, .ref o8), (1, .int (nI a))] := hl
  refine lv_aload_n hx hb dJ5_charAt_5068e_0 rfl (lv_at hl 0 rfl) ?_
  refine va_get (D := D) (ci := 1) (v := .int 0) (C := RJ4) (T := TJ4) (N := 4) hx hb hts in_RJ4 hown hK hP 0 rfl rfl 1 (by decide) (hts _ (List.mem_of_getElem? (i := 1) rfl)) (fun _ h9 => h9) rfl dJ5_charAt_5068e_1 ?_
  refine lv_istore_n (lv' := [(2, .int 0), (0, .ref o8), (1, .int (nI a))]) hx hb dJ5_charAt_5068e_4 rfl hl (by decide) rfl (fun ls hl => ?_)
  refine lv_aload_n hx hb dJ5_charAt_5068e_5 rfl (lv_at hl 1 rfl) ?_
  refine va_get (D := D) (ci := 1) (v := .ref b8) (C := RJ4) (T := TJ4) (N := 4) hx hb hts in_RJ4 hown hK hP 0 rfl rfl 0 (by decide) (hts _ (List.mem_of_getElem? (i := 2) rfl)) (fun _ h9 => h9) rfl dJ5_charAt_5068e_6 ?_
  refine lv_astore_n (lv' := [(3, .ref b8), (2, .int 0), (0, .ref o8), (1, .int (nI a))]) hx hb dJ5_charAt_5068e_9 rfl hl (by decide) rfl (fun ls hl => ?_)
  refine lv_aload_n hx hb dJ5_charAt_5068e_10 rfl (lv_at hl 2 rfl) ?_
  refine va_get (D := D) (ci := 1) (v := .int (nI nn)) (C := RJ4) (T := TJ4) (N := 4) hx hb hts in_RJ4 hown hK hP 0 rfl rfl 3 (by decide) (hts _ (List.mem_of_getElem? (i := 3) rfl)) (fun _ h9 => h9) rfl dJ5_charAt_5068e_11 ?_
  refine lv_aload_n hx hb dJ5_charAt_5068e_14 rfl (lv_at hl 0 rfl) ?_
  refine va_alen (v := nI mm) hx hb hK hP 1 1 rfl rfl rfl dJ5_charAt_5068e_15 ?_
  refine lv_iload_n hx hb dJ5_charAt_5068e_16 rfl (lv_at hl 1 rfl) ?_
  refine lv_ishr hx hb dJ5_charAt_5068e_17 ?_
  refine z_top (y := nI mm) (sb_shr0 _) ?_
  refine va_mmin hx hb (hml.trans hl.1.symm) hown (hts _ (List.mem_of_getElem? (i := 4) rfl)) (hts _ (List.mem_of_getElem? (i := 5) rfl)) (hts _ (List.mem_of_getElem? (i := 6) rfl)) (hts _ (List.mem_of_getElem? (i := 7) rfl)) (Nat.le_of_ble_eq_true rfl) (Nat.le_of_ble_eq_true rfl) (Nat.zero_le _) (Nat.zero_le _) dJ5_charAt_5068e_18 ?_
  refine z_top (y := nI nn) (if_neg (nI_nlt hnm (by omega))) ?_
  refine lv_istore (lv' := [(4, .int (nI nn)), (3, .ref b8), (2, .int 0), (0, .ref o8), (1, .int (nI a))]) hx hb dJ5_charAt_5068e_21 hl (by decide) rfl (fun ls hl => ?_)
  refine lv_iload_n hx hb dJ5_charAt_5068e_23 rfl (lv_at hl 4 rfl) ?_
  refine lv_iload hx hb dJ5_charAt_5068e_24 (lv_at hl 0 rfl) ?_
  refine zcS (As := [.int (nI a), .int (nI nn)]) (rest := []) [] hg.1.1 ⟨hx, hb, hml, hown, hts⟩ (c_J0_checkIndex_df160 hg l D cy a nn (by first | assumption | omega) (by first | assumption | omega)) (va_cwS 2 hts gJ5_charAt_5068e_J0_checkIndex_df160 rfl rfl rfl (by decide +kernel) ⟨Nat.le_of_ble_eq_true rfl, Nat.le_of_ble_eq_true rfl⟩) hG hK hP hD hS hA rfl rfl rfl  rfl hl.1 rfl (Nat.le_of_ble_eq_true rfl) dJ5_charAt_5068e_26 ⟨Nat.zero_le _, Nat.zero_le _⟩ (fun H locs hP hD hS => ?_)
  have hP : va_P D vwCl [(o8, .inr (1, [.ref b8, .int 0, .int ml, .int (nI nn)])), (b8, .inl (cy 1, mm, .inl bx))] H := hP
  have hD : va_D A [(o8, .inr (1, [.ref b8, .int 0, .int ml, .int (nI nn)])), (b8, .inl (cy 1, mm, .inl bx))] := hD
  refine lv_iload_n hx hb dJ5_charAt_5068e_29 rfl (lv_at hl 2 rfl) ?_
  refine lv_if_ne (tgt := 42) hx hb dJ5_charAt_5068e_30 (by decide) (fun c_1 => ?_) (fun c_1 => ?_)
  · exact absurd c_1 (by decide)
  · refine lv_aload_n hx hb dJ5_charAt_5068e_33 rfl (lv_at hl 1 rfl) ?_
    refine lv_iload_n hx hb dJ5_charAt_5068e_34 rfl (lv_at hl 4 rfl) ?_
    refine zbald 1 a hx hb hK hP rfl rfl (by omega) (by omega) dJ5_charAt_5068e_35 ?_
    refine lv_sipush (v := 255) hx hb dJ5_charAt_5068e_36 (by decide) ?_
    refine lv_iand hx hb dJ5_charAt_5068e_39 ?_
    refine lv_i2c hx hb dJ5_charAt_5068e_40 rfl ?_
    exact zzret hend hx hb hr hlk hK hP hD hS dJ5_charAt_5068e_41 (pk_nc _) (hch a ha) rfl

abbrev rmJ4_charAt_5068e : Room := { frames := 3, cells := 0, slots := 0, locals := 67 }
set_option maxHeartbeats 4000000 in
set_option maxRecDepth 100000 in
theorem c_J4_charAt_5068e {G : zG} (hg : zGJ G) (l : Launch) (D : va_G) (cy : Nat → ClassId) (o8 : Nat) (b8 : Nat) (ml : Int32) (nn : Nat) (bx : Nat → Int32) (mm : Nat) (a : Nat) (hnm : nn ≤ mm) (hmm : mm ≤ 100) (ha : a < nn) (hch : ∀ j, j < nn → zch (bx j)) : zM G D vwCl (zT cy) l yJ4_charAt_5068e wsJ4_charAt_5068e rmJ4_charAt_5068e [.ref o8, .int (nI a)] [(o8, .inr (1, [.ref b8, .int 0, .int ml, .int (nI nn)])), (b8, .inl (cy 1, mm, .inl bx))] (some (.int (bx a))) [(o8, .inr (1, [.ref b8, .int 0, .int ml, .int (nI nn)])), (b8, .inl (cy 1, mm, .inl bx))] := by
  refine zM_of (cc := cJ4_charAt_5068e) (maxL := 2) (ret := (some .char)) (by decide) rfl (Nat.le_of_ble_eq_true rfl) ?_
  intro p e s m below meth c A Q hend hx hb hml hr hts hown hlk hG hK hP hD hA hS ls hl
  have hown : s.vm.findClass RJ4 = some m.cls := hown
  have hl : lv_has ls 2 [(0, .ref o8), (1, .int (nI a))] := hl
  refine lv_aload_n hx hb dJ4_charAt_5068e_0 rfl (lv_at hl 0 rfl) ?_
  refine lv_iload_n hx hb dJ4_charAt_5068e_1 rfl (lv_at hl 1 rfl) ?_
  refine zcSU (As := [.int (nI a)]) (rest := []) [0, 1] 0 hg.1.1 ⟨hx, hb, hml, hown, hts⟩ (c_J5_charAt_5068e hg l D cy o8 b8 ml nn bx mm a (by first | assumption | omega) (by first | assumption | omega) (by first | assumption | omega) (by first | assumption | omega)) (va_cwSU 1 hts gJ4_charAt_5068e_J5_charAt_5068e_s329 rfl rfl rfl (by decide +kernel) ⟨Nat.le_of_ble_eq_true rfl, Nat.le_of_ble_eq_true rfl⟩) hG hK hP hD hS hA rfl rfl rfl rfl rfl rfl hl.1 rfl (Nat.le_of_ble_eq_true rfl) dJ4_charAt_5068e_2 ⟨Nat.zero_le _, Nat.zero_le _⟩ (fun H locs hP hD hS => ?_)
  have hP : va_P D vwCl [(o8, .inr (1, [.ref b8, .int 0, .int ml, .int (nI nn)])), (b8, .inl (cy 1, mm, .inl bx))] H := hP
  have hD : va_D A [(o8, .inr (1, [.ref b8, .int 0, .int ml, .int (nI nn)])), (b8, .inl (cy 1, mm, .inl bx))] := hD
  exact zzret hend hx hb hr hlk hK hP hD hS dJ4_charAt_5068e_5 (by rw [← hch a ha]; exact pk_nc _) rfl rfl

abbrev rmJ5_ensureCapacityInternal_d00df_in : Room := { frames := 0, cells := 0, slots := 0, locals := 0 }
set_option maxHeartbeats 4000000 in
set_option maxRecDepth 100000 in
theorem c_J5_ensureCapacityInternal_d00df_in {G : zG} (hg : zGJ G) (l : Launch) (D : va_G) (cy : Nat → ClassId) (o8 : Nat) (b8 : Nat) (ml : Int32) (nn : Nat) (bx : Nat → Int32) (mm : Nat) (kk : Nat) (hkm : kk ≤ mm) (hmm : mm ≤ 100) : zM G D vwCl (zT cy) l yJ5_ensureCapacityInternal_d00df wsJ5_ensureCapacityInternal_d00df rmJ5_ensureCapacityInternal_d00df_in [.ref o8, .int (nI kk)] [(o8, .inr (1, [.ref b8, .int 0, .int ml, .int (nI nn)])), (b8, .inl (cy 1, mm, .inl bx))] none [(o8, .inr (1, [.ref b8, .int 0, .int ml, .int (nI nn)])), (b8, .inl (cy 1, mm, .inl bx))] := by
  refine zM_of (cc := cJ5_ensureCapacityInternal_d00df) (maxL := 3) (ret := none) (by decide) rfl (Nat.le_of_ble_eq_true rfl) ?_
  intro p e s m below meth c A Q hend hx hb hml hr hts hown hlk hG hK hP hD hA hS ls hl
  have hown : s.vm.findClass RJ5 = some m.cls := hown
  have in_RJ4 : ∀ w ∈ u_ws RJ4 TJ4 4, w ∈ wsJ5_ensureCapacityInternal_d00df := by decide +kernel
  have hl : lv_has ls 3 [(0, .ref o8), (1, .int (nI kk))] := hl
  refine lv_aload_n hx hb dJ5_ensureCapacityInternal_d00df_0 rfl (lv_at hl 0 rfl) ?_
  refine va_get (D := D) (ci := 1) (v := .ref b8) (C := RJ4) (T := TJ4) (N := 4) hx hb hts in_RJ4 hown hK hP 0 rfl rfl 0 (by decide) (hts _ (List.mem_of_getElem? (i := 1) rfl)) (fun _ h9 => h9) rfl dJ5_ensureCapacityInternal_d00df_1 ?_
  refine va_alen (v := nI mm) hx hb hK hP 1 1 rfl rfl rfl dJ5_ensureCapacityInternal_d00df_4 ?_
  refine lv_aload_n hx hb dJ5_ensureCapacityInternal_d00df_5 rfl (lv_at hl 0 rfl) ?_
  refine va_get (D := D) (ci := 1) (v := .int 0) (C := RJ4) (T := TJ4) (N := 4) hx hb hts in_RJ4 hown hK hP 0 rfl rfl 1 (by decide) (hts _ (List.mem_of_getElem? (i := 2) rfl)) (fun _ h9 => h9) rfl dJ5_ensureCapacityInternal_d00df_6 ?_
  refine lv_ishr hx hb dJ5_ensureCapacityInternal_d00df_9 ?_
  refine z_top (y := nI mm) (sb_shr0 _) ?_
  refine lv_istore_n (lv' := [(2, .int (nI mm)), (0, .ref o8), (1, .int (nI kk))]) hx hb dJ5_ensureCapacityInternal_d00df_10 rfl hl (by decide) rfl (fun ls hl => ?_)
  refine lv_iload_n hx hb dJ5_ensureCapacityInternal_d00df_11 rfl (lv_at hl 2 rfl) ?_
  refine lv_iload_n hx hb dJ5_ensureCapacityInternal_d00df_12 rfl (lv_at hl 0 rfl) ?_
  refine lv_isub hx hb dJ5_ensureCapacityInternal_d00df_13 ?_
  refine lv_if_le (tgt := 38) hx hb dJ5_ensureCapacityInternal_d00df_14 (by decide) (fun c_1 => ?_) (fun c_1 => ?_)
  · exact zvret hend hx hb hr hlk hK hP hD hS dJ5_ensureCapacityInternal_d00df_38 rfl
  · exact absurd (nI_sub_le hkm (by omega)) c_1

abbrev rmJ5_setLength_d00df : Room := { frames := 1, cells := 0, slots := 0, locals := 22 }
set_option maxHeartbeats 4000000 in
set_option maxRecDepth 100000 in
theorem c_J5_setLength_d00df {G : zG} (hg : zGJ G) (l : Launch) (D : va_G) (cy : Nat → ClassId) (o8 : Nat) (b8 : Nat) (ml : Int32) (nn : Nat) (bx : Nat → Int32) (mm : Nat) (hnm : nn ≤ mm) (hmm : mm ≤ 100) : zM G D vwCl (zT cy) l yJ5_setLength_d00df wsJ5_setLength_d00df rmJ5_setLength_d00df [.ref o8, .int (nI 0)] [(o8, .inr (1, [.ref b8, .int 0, .int ml, .int (nI nn)])), (b8, .inl (cy 1, mm, .inl bx))] none [(o8, .inr (1, [.ref b8, .int 0, .int (zml nn ml), .int (nI 0)])), (b8, .inl (cy 1, mm, .inl bx))] := by
  refine zM_of (cc := cJ5_setLength_d00df) (maxL := 2) (ret := none) (by decide) rfl (Nat.le_of_ble_eq_true rfl) ?_
  intro p e s m below meth c A Q hend hx hb hml hr hts hown hlk hG hK hP hD hA hS ls hl
  have hown : s.vm.findClass RJ5 = some m.cls := hown
  have in_RJ4 : ∀ w ∈ u_ws RJ4 TJ4 4, w ∈ wsJ5_setLength_d00df := by decide +kernel
  have hl : lv_has ls 2 [(0, .ref o8), (1, .int (nI 0))] := hl
  refine lv_iload_n hx hb dJ5_setLength_d00df_0 rfl (lv_at hl 1 rfl) ?_
  refine lv_if_ge (tgt := 13) hx hb dJ5_setLength_d00df_1 (by decide) (fun c_1 => ?_) (fun c_1 => ?_)
  · refine lv_aload_n hx hb dJ5_setLength_d00df_13 rfl (lv_at hl 0 rfl) ?_
    refine lv_iload_n hx hb dJ5_setLength_d00df_14 rfl (lv_at hl 1 rfl) ?_
    refine zcU (As := [.int (nI 0)]) (rest := []) [0, 1] 0 hg.1.1 ⟨hx, hb, hml, hown, hts⟩ (c_J5_ensureCapacityInternal_d00df_in hg l D cy o8 b8 ml nn bx mm 0 (Nat.zero_le _) (by first | assumption | omega)) (va_cwU 1 hts gJ5_setLength_d00df_J5_ensureCapacityInternal_d00df_u100J4 rfl rfl rfl rfl (by decide +kernel) ⟨Nat.le_of_ble_eq_true rfl, Nat.le_of_ble_eq_true rfl⟩) hG hK hP hD hS hA rfl rfl rfl rfl rfl rfl hl.1 rfl (Nat.le_of_ble_eq_true rfl) dJ5_setLength_d00df_15 ⟨Nat.zero_le _, Nat.zero_le _⟩ (fun H locs hP hD hS => ?_)
    have hP : va_P D vwCl [(o8, .inr (1, [.ref b8, .int 0, .int ml, .int (nI nn)])), (b8, .inl (cy 1, mm, .inl bx))] H := hP
    have hD : va_D A [(o8, .inr (1, [.ref b8, .int 0, .int ml, .int (nI nn)])), (b8, .inl (cy 1, mm, .inl bx))] := hD
    refine lv_aload_n hx hb dJ5_setLength_d00df_18 rfl (lv_at hl 0 rfl) ?_
    refine va_get (D := D) (ci := 1) (v := .int (nI nn)) (C := RJ4) (T := TJ4) (N := 4) hx hb hts in_RJ4 hown hK hP 0 rfl rfl 3 (by decide) (hts _ (List.mem_of_getElem? (i := 4) rfl)) (fun _ h9 => h9) rfl dJ5_setLength_d00df_19 ?_
    refine lv_iload_n hx hb dJ5_setLength_d00df_22 rfl (lv_at hl 1 rfl) ?_
    refine lv_icmp_ge (tgt := 63) hx hb dJ5_setLength_d00df_23 (by decide) (fun c_2 => ?_) (fun c_2 => ?_)
    · refine lv_aload_n hx hb dJ5_setLength_d00df_63 rfl (lv_at hl 0 rfl) ?_
      refine va_get (D := D) (ci := 1) (v := .int (nI nn)) (C := RJ4) (T := TJ4) (N := 4) hx hb hts in_RJ4 hown hK hP 0 rfl rfl 3 (by decide) (hts _ (List.mem_of_getElem? (i := 4) rfl)) (fun _ h9 => h9) rfl dJ5_setLength_d00df_64 ?_
      refine lv_iload_n hx hb dJ5_setLength_d00df_67 rfl (lv_at hl 1 rfl) ?_
      refine lv_icmp_le (tgt := 76) hx hb dJ5_setLength_d00df_68 (by decide) (fun c_3 => ?_) (fun c_3 => ?_)
      · have h0 : nn = 0 := Nat.le_zero.mp ((nI_leI (a := nn) (b := 0) (by omega) (by omega)).mp c_3)
        refine lv_aload_n hx hb dJ5_setLength_d00df_76 rfl (lv_at hl 0 rfl) ?_
        refine lv_iload_n hx hb dJ5_setLength_d00df_77 rfl (lv_at hl 1 rfl) ?_
        refine va_put (D := D) (ci := 1) (v := .int (nI 0)) (ty := .int) (C := RJ4) (T := TJ4) (N := 4) hx hb hts in_RJ4 tyJ4 tyJ4_ok nmJ4 hown hK hP hD hS 0 rfl rfl 3 (by decide) (hts _ (List.mem_of_getElem? (i := 4) rfl)) (fun _ h9 => h9) rfl (by decide +kernel) rfl rfl (Nat.le_of_ble_eq_true rfl) dJ5_setLength_d00df_78 (fun H locs hP hD hS => ?_)
        have hP : va_P D vwCl [(o8, .inr (1, [.ref b8, .int 0, .int ml, .int (nI 0)])), (b8, .inl (cy 1, mm, .inl bx))] H := hP
        have hD : va_D A [(o8, .inr (1, [.ref b8, .int 0, .int ml, .int (nI 0)])), (b8, .inl (cy 1, mm, .inl bx))] := hD
        exact zvret hend hx hb hr hlk hK hP hD hS dJ5_setLength_d00df_81 (by simp only [zml, h0, ↓reduceIte])
      · have h0 : ¬ nn = 0 := fun z => c_3 ((nI_leI (a := nn) (b := 0) (by omega) (by omega)).mpr (by omega))
        refine lv_aload_n hx hb dJ5_setLength_d00df_71 rfl (lv_at hl 0 rfl) ?_
        refine lv_iconst (v := 1) hx hb dJ5_setLength_d00df_72 (by decide) ?_
        refine va_put (D := D) (ci := 1) (v := .int 1) (ty := .boolean) (C := RJ4) (T := TJ4) (N := 4) hx hb hts in_RJ4 tyJ4 tyJ4_ok nmJ4 hown hK hP hD hS 0 rfl rfl 2 (by decide) (hts _ (List.mem_of_getElem? (i := 6) rfl)) (fun _ h9 => h9) rfl (by decide +kernel) rfl rfl (Nat.le_of_ble_eq_true rfl) dJ5_setLength_d00df_73 (fun H locs hP hD hS => ?_)
        have hP : va_P D vwCl [(o8, .inr (1, [.ref b8, .int 0, .int 1, .int (nI nn)])), (b8, .inl (cy 1, mm, .inl bx))] H := hP
        have hD : va_D A [(o8, .inr (1, [.ref b8, .int 0, .int 1, .int (nI nn)])), (b8, .inl (cy 1, mm, .inl bx))] := hD
        refine lv_aload_n hx hb dJ5_setLength_d00df_76 rfl (lv_at hl 0 rfl) ?_
        refine lv_iload_n hx hb dJ5_setLength_d00df_77 rfl (lv_at hl 1 rfl) ?_
        refine va_put (D := D) (ci := 1) (v := .int (nI 0)) (ty := .int) (C := RJ4) (T := TJ4) (N := 4) hx hb hts in_RJ4 tyJ4 tyJ4_ok nmJ4 hown hK hP hD hS 0 rfl rfl 3 (by decide) (hts _ (List.mem_of_getElem? (i := 4) rfl)) (fun _ h9 => h9) rfl (by decide +kernel) rfl rfl (Nat.le_of_ble_eq_true rfl) dJ5_setLength_d00df_78 (fun H locs hP hD hS => ?_)
        have hP : va_P D vwCl [(o8, .inr (1, [.ref b8, .int 0, .int 1, .int (nI 0)])), (b8, .inl (cy 1, mm, .inl bx))] H := hP
        have hD : va_D A [(o8, .inr (1, [.ref b8, .int 0, .int 1, .int (nI 0)])), (b8, .inl (cy 1, mm, .inl bx))] := hD
        exact zvret hend hx hb hr hlk hK hP hD hS dJ5_setLength_d00df_81 (by simp only [zml, h0, ↓reduceIte])
    · exact absurd ((nI_leI (a := 0) (b := nn) (by omega) (by omega)).mpr (Nat.zero_le _)) c_2
  · exact absurd (by decide) c_1

abbrev rmJ4_setLength_d00df : Room := { frames := 2, cells := 0, slots := 0, locals := 43 }
set_option maxHeartbeats 4000000 in
set_option maxRecDepth 100000 in
theorem c_J4_setLength_d00df {G : zG} (hg : zGJ G) (l : Launch) (D : va_G) (cy : Nat → ClassId) (o8 : Nat) (b8 : Nat) (ml : Int32) (nn : Nat) (bx : Nat → Int32) (mm : Nat) (hnm : nn ≤ mm) (hmm : mm ≤ 100) : zM G D vwCl (zT cy) l yJ4_setLength_d00df wsJ4_setLength_d00df rmJ4_setLength_d00df [.ref o8, .int (nI 0)] [(o8, .inr (1, [.ref b8, .int 0, .int ml, .int (nI nn)])), (b8, .inl (cy 1, mm, .inl bx))] none [(o8, .inr (1, [.ref b8, .int 0, .int (zml nn ml), .int (nI 0)])), (b8, .inl (cy 1, mm, .inl bx))] := by
  refine zM_of (cc := cJ4_setLength_d00df) (maxL := 2) (ret := none) (by decide) rfl (Nat.le_of_ble_eq_true rfl) ?_
  intro p e s m below meth c A Q hend hx hb hml hr hts hown hlk hG hK hP hD hA hS ls hl
  have hown : s.vm.findClass RJ4 = some m.cls := hown
  have hl : lv_has ls 2 [(0, .ref o8), (1, .int (nI 0))] := hl
  refine lv_aload_n hx hb dJ4_setLength_d00df_0 rfl (lv_at hl 0 rfl) ?_
  refine lv_iload_n hx hb dJ4_setLength_d00df_1 rfl (lv_at hl 1 rfl) ?_
  refine zcSU (As := [.int (nI 0)]) (rest := []) [0, 1] 0 hg.1.1 ⟨hx, hb, hml, hown, hts⟩ (c_J5_setLength_d00df hg l D cy o8 b8 ml nn bx mm (by first | assumption | omega) (by first | assumption | omega)) (va_cwSU 1 hts gJ4_setLength_d00df_J5_setLength_d00df_s333 rfl rfl rfl (by decide +kernel) ⟨Nat.le_of_ble_eq_true rfl, Nat.le_of_ble_eq_true rfl⟩) hG hK hP hD hS hA rfl rfl (Eq.trans (b := [o8, b8]) rfl rfl) rfl rfl rfl hl.1 rfl (Nat.le_of_ble_eq_true rfl) dJ4_setLength_d00df_2 ⟨Nat.zero_le _, Nat.zero_le _⟩ (fun H locs hP hD hS => ?_)
  have hP : va_P D vwCl [(o8, .inr (1, [.ref b8, .int 0, .int (zml nn ml), .int (nI 0)])), (b8, .inl (cy 1, mm, .inl bx))] H := hP
  have hD : va_D A [(o8, .inr (1, [.ref b8, .int 0, .int (zml nn ml), .int (nI 0)])), (b8, .inl (cy 1, mm, .inl bx))] := hD
  exact zvret hend hx hb hr hlk hK hP hD hS dJ4_setLength_d00df_5 rfl

abbrev rmJ1_canEncode_fc78d : Room := { frames := 0, cells := 0, slots := 0, locals := 0 }
set_option maxHeartbeats 4000000 in
set_option maxRecDepth 100000 in
theorem c_J1_canEncode_fc78d {G : zG} (hg : zGN G) (l : Launch) (D : va_G) (cy : Nat → ClassId) (xq : Int32) (hxq : xq ≤ 255) : zM G D vwCl (zT cy) l yJ1_canEncode_fc78d wsJ1_canEncode_fc78d rmJ1_canEncode_fc78d [.int xq] [] (some (.int 1)) [] := by
  refine zM_of (cc := cJ1_canEncode_fc78d) (maxL := 1) (ret := (some .boolean)) (by decide) rfl (Nat.le_of_ble_eq_true rfl) ?_
  intro p e s m below meth c A Q hend hx hb hml hr hts hown hlk hG hK hP hD hA hS ls hl
  have hown : s.vm.findClass RJ1 = some m.cls := hown
  have hl : lv_has ls 1 [(0, .int xq)] := hl
  refine lv_iload_n hx hb dJ1_canEncode_fc78d_0 rfl (lv_at hl 0 rfl) ?_
  refine lv_sipush (v := 255) hx hb dJ1_canEncode_fc78d_1 (by decide) ?_
  refine lv_icmp_gt (tgt := 11) hx hb dJ1_canEncode_fc78d_4 (by decide) (fun c_1 => ?_) (fun c_1 => ?_)
  · exact absurd hxq (Int32.not_le.mpr c_1)
  · refine lv_iconst (v := 1) hx hb dJ1_canEncode_fc78d_7 (by decide) ?_
    refine lv_goto (tgt := 12) hx hb dJ1_canEncode_fc78d_8 (by decide) ?_
    exact zzret hend hx hb hr hlk hK hP hD hS dJ1_canEncode_fc78d_12 rfl rfl rfl

abbrev rmJ5_append_3fe6f_in : Room := { frames := 1, cells := 0, slots := 0, locals := 22 }
set_option maxHeartbeats 4000000 in
set_option maxRecDepth 100000 in
theorem c_J5_append_3fe6f_in {G : zG} (hg : zGJ G) (l : Launch) (D : va_G) (cy : Nat → ClassId) (o8 : Nat) (b8 : Nat) (ml : Int32) (nn : Nat) (bx : Nat → Int32) (mm : Nat) (xq : Int32) (hnm : nn < mm) (hmm : mm ≤ 100) (hxq : xq ≤ 255) (hby : vp_nar .byte xq.toInt8.toInt32 = xq) : zM G D vwCl (zT cy) l yJ5_append_3fe6f wsJ5_append_3fe6f rmJ5_append_3fe6f_in [.ref o8, .int xq] [(o8, .inr (1, [.ref b8, .int 0, .int ml, .int (nI nn)])), (b8, .inl (cy 1, mm, .inl bx))] (some (.ref o8)) [(o8, .inr (1, [.ref b8, .int 0, .int ml, .int (nI (nn + 1))])), (b8, .inl (cy 1, mm, .inl (upd bx nn xq)))] := by
  refine zM_of (cc := cJ5_append_3fe6f) (maxL := 2) (ret := (some (.object "java/lang/AbstractStringBuilder"))) (by decide) rfl (Nat.le_of_ble_eq_true rfl) ?_
  intro p e s m below meth c A Q hend hx hb hml hr hts hown hlk hG hK hP hD hA hS ls hl
  have hown : s.vm.findClass RJ5 = some m.cls := hown
  have in_RJ4 : ∀ w ∈ u_ws RJ4 TJ4 4, w ∈ wsJ5_append_3fe6f := by decide +kernel
  have hl : lv_has ls 2 [(0, .ref o8), (1, .int xq)] := hl
  refine lv_aload_n hx hb dJ5_append_3fe6f_0 rfl (lv_at hl 0 rfl) ?_
  refine lv_aload_n hx hb dJ5_append_3fe6f_1 rfl (lv_at hl 0 rfl) ?_
  refine va_get (D := D) (ci := 1) (v := .int (nI nn)) (C := RJ4) (T := TJ4) (N := 4) hx hb hts in_RJ4 hown hK hP 0 rfl rfl 3 (by decide) (hts _ (List.mem_of_getElem? (i := 1) rfl)) (fun _ h9 => h9) rfl dJ5_append_3fe6f_2 ?_
  refine lv_iconst (v := 1) hx hb dJ5_append_3fe6f_5 (by decide) ?_
  refine lv_iadd hx hb dJ5_append_3fe6f_6 ?_
  refine z_top (y := nI (nn + 1)) (nI_add nn 1) ?_
  refine zcU (As := [.int (nI (nn + 1))]) (rest := []) [0, 1] 0 hg.1.1 ⟨hx, hb, hml, hown, hts⟩ (c_J5_ensureCapacityInternal_d00df_in hg l D cy o8 b8 ml nn bx mm (nn + 1) (by omega) (by first | assumption | omega)) (va_cwU 1 hts gJ5_append_3fe6f_J5_ensureCapacityInternal_d00df_u100J4 rfl rfl rfl rfl (by decide +kernel) ⟨Nat.le_of_ble_eq_true rfl, Nat.le_of_ble_eq_true rfl⟩) hG hK hP hD hS hA rfl rfl rfl rfl rfl rfl hl.1 rfl (Nat.le_of_ble_eq_true rfl) dJ5_append_3fe6f_7 ⟨Nat.zero_le _, Nat.zero_le _⟩ (fun H locs hP hD hS => ?_)
  have hP : va_P D vwCl [(o8, .inr (1, [.ref b8, .int 0, .int ml, .int (nI nn)])), (b8, .inl (cy 1, mm, .inl bx))] H := hP
  have hD : va_D A [(o8, .inr (1, [.ref b8, .int 0, .int ml, .int (nI nn)])), (b8, .inl (cy 1, mm, .inl bx))] := hD
  refine lv_aload_n hx hb dJ5_append_3fe6f_10 rfl (lv_at hl 0 rfl) ?_
  refine zcU (As := []) (rest := []) [0] 0 hg.1.1 ⟨hx, hb, hml, hown, hts⟩ (c_J5_isLatin1_aae02 hg l D cy o8 b8 ml nn) (va_cwU 0 hts gJ5_append_3fe6f_J5_isLatin1_aae02_u83J4 rfl rfl rfl rfl (by decide +kernel) ⟨Nat.le_of_ble_eq_true rfl, Nat.le_of_ble_eq_true rfl⟩) hG hK hP hD hS hA rfl rfl rfl rfl rfl rfl hl.1 rfl (Nat.le_of_ble_eq_true rfl) dJ5_append_3fe6f_11 ⟨Nat.zero_le _, Nat.zero_le _⟩ (fun H locs hP hD hS => ?_)
  have hP : va_P D vwCl [(o8, .inr (1, [.ref b8, .int 0, .int ml, .int (nI nn)])), (b8, .inl (cy 1, mm, .inl bx))] H := hP
  have hD : va_D A [(o8, .inr (1, [.ref b8, .int 0, .int ml, .int (nI nn)])), (b8, .inl (cy 1, mm, .inl bx))] := hD
  refine lv_if_eq (tgt := 45) hx hb dJ5_append_3fe6f_14 (by decide) (fun c_1 => ?_) (fun c_1 => ?_)
  · exact absurd c_1 (by decide)
  · refine lv_iload_n hx hb dJ5_append_3fe6f_17 rfl (lv_at hl 1 rfl) ?_
    refine zcS (As := [.int xq]) (rest := []) [] hg.1.1 ⟨hx, hb, hml, hown, hts⟩ (c_J1_canEncode_fc78d hg.1 l D cy xq (by first | assumption | omega)) (va_cwS 1 hts gJ5_append_3fe6f_J1_canEncode_fc78d rfl rfl rfl (by decide +kernel) ⟨Nat.le_of_ble_eq_true rfl, Nat.le_of_ble_eq_true rfl⟩) hG hK hP hD hS hA rfl rfl rfl  rfl hl.1 rfl (Nat.le_of_ble_eq_true rfl) dJ5_append_3fe6f_18 ⟨Nat.zero_le _, Nat.zero_le _⟩ (fun H locs hP hD hS => ?_)
    have hP : va_P D vwCl [(o8, .inr (1, [.ref b8, .int 0, .int ml, .int (nI nn)])), (b8, .inl (cy 1, mm, .inl bx))] H := hP
    have hD : va_D A [(o8, .inr (1, [.ref b8, .int 0, .int ml, .int (nI nn)])), (b8, .inl (cy 1, mm, .inl bx))] := hD
    refine lv_if_eq (tgt := 45) hx hb dJ5_append_3fe6f_21 (by decide) (fun c_2 => ?_) (fun c_2 => ?_)
    · exact absurd c_2 (by decide)
    · refine lv_aload_n hx hb dJ5_append_3fe6f_24 rfl (lv_at hl 0 rfl) ?_
      refine va_get (D := D) (ci := 1) (v := .ref b8) (C := RJ4) (T := TJ4) (N := 4) hx hb hts in_RJ4 hown hK hP 0 rfl rfl 0 (by decide) (hts _ (List.mem_of_getElem? (i := 2) rfl)) (fun _ h9 => h9) rfl dJ5_append_3fe6f_25 ?_
      refine lv_aload_n hx hb dJ5_append_3fe6f_28 rfl (lv_at hl 0 rfl) ?_
      refine lv_dup hx hb dJ5_append_3fe6f_29 rfl ?_
      refine va_get (D := D) (ci := 1) (v := .int (nI nn)) (C := RJ4) (T := TJ4) (N := 4) hx hb hts in_RJ4 hown hK hP 0 rfl rfl 3 (by decide) (hts _ (List.mem_of_getElem? (i := 1) rfl)) (fun _ h9 => h9) rfl dJ5_append_3fe6f_30 ?_
      refine lv_dup_x1 hx hb dJ5_append_3fe6f_33 rfl rfl ?_
      refine lv_iconst (v := 1) hx hb dJ5_append_3fe6f_34 (by decide) ?_
      refine lv_iadd hx hb dJ5_append_3fe6f_35 ?_
      refine z_top (y := nI (nn + 1)) (nI_add nn 1) ?_
      refine va_put (D := D) (ci := 1) (v := .int (nI (nn + 1))) (ty := .int) (C := RJ4) (T := TJ4) (N := 4) hx hb hts in_RJ4 tyJ4 tyJ4_ok nmJ4 hown hK hP hD hS 0 rfl rfl 3 (by decide) (hts _ (List.mem_of_getElem? (i := 1) rfl)) (fun _ h9 => h9) rfl (by decide +kernel) rfl rfl (Nat.le_of_ble_eq_true rfl) dJ5_append_3fe6f_36 (fun H locs hP hD hS => ?_)
      have hP : va_P D vwCl [(o8, .inr (1, [.ref b8, .int 0, .int ml, .int (nI (nn + 1))])), (b8, .inl (cy 1, mm, .inl bx))] H := hP
      have hD : va_D A [(o8, .inr (1, [.ref b8, .int 0, .int ml, .int (nI (nn + 1))])), (b8, .inl (cy 1, mm, .inl bx))] := hD
      refine lv_iload_n hx hb dJ5_append_3fe6f_39 rfl (lv_at hl 1 rfl) ?_
      refine lv_i2b hx hb dJ5_append_3fe6f_40 rfl ?_
      refine zbast (x' := xq) 1 nn hx hb hK hP hD hS rfl rfl (by omega) (by omega) hby dJ5_append_3fe6f_41 (fun H locs hP hD hS => ?_)
      have hP : va_P D vwCl [(o8, .inr (1, [.ref b8, .int 0, .int ml, .int (nI (nn + 1))])), (b8, .inl (cy 1, mm, .inl (upd bx nn xq)))] H := hP
      have hD : va_D A [(o8, .inr (1, [.ref b8, .int 0, .int ml, .int (nI (nn + 1))])), (b8, .inl (cy 1, mm, .inl (upd bx nn xq)))] := hD
      refine lv_goto (tgt := 75) hx hb dJ5_append_3fe6f_42 (by decide) ?_
      refine lv_aload_n hx hb dJ5_append_3fe6f_75 rfl (lv_at hl 0 rfl) ?_
      exact zaret hend hx hb hr (Or.inl ⟨_, rfl⟩) hlk hK hP hD hS dJ5_append_3fe6f_76 rfl rfl

abbrev rmJ4_append_cf468_in : Room := { frames := 2, cells := 0, slots := 0, locals := 43 }
set_option maxHeartbeats 4000000 in
set_option maxRecDepth 100000 in
theorem c_J4_append_cf468_in {G : zG} (hg : zGJ G) (l : Launch) (D : va_G) (cy : Nat → ClassId) (o8 : Nat) (b8 : Nat) (ml : Int32) (nn : Nat) (bx : Nat → Int32) (mm : Nat) (xq : Int32) (hnm : nn < mm) (hmm : mm ≤ 100) (hxq : xq ≤ 255) (hby : vp_nar .byte xq.toInt8.toInt32 = xq) : zM G D vwCl (zT cy) l yJ4_append_cf468 wsJ4_append_cf468 rmJ4_append_cf468_in [.ref o8, .int xq] [(o8, .inr (1, [.ref b8, .int 0, .int ml, .int (nI nn)])), (b8, .inl (cy 1, mm, .inl bx))] (some (.ref o8)) [(o8, .inr (1, [.ref b8, .int 0, .int ml, .int (nI (nn + 1))])), (b8, .inl (cy 1, mm, .inl (upd bx nn xq)))] := by
  refine zM_of (cc := cJ4_append_cf468) (maxL := 2) (ret := (some (.object "java/lang/StringBuilder"))) (by decide) rfl (Nat.le_of_ble_eq_true rfl) ?_
  intro p e s m below meth c A Q hend hx hb hml hr hts hown hlk hG hK hP hD hA hS ls hl
  have hown : s.vm.findClass RJ4 = some m.cls := hown
  have hl : lv_has ls 2 [(0, .ref o8), (1, .int xq)] := hl
  refine lv_aload_n hx hb dJ4_append_cf468_0 rfl (lv_at hl 0 rfl) ?_
  refine lv_iload_n hx hb dJ4_append_cf468_1 rfl (lv_at hl 1 rfl) ?_
  refine zcSU (As := [.int xq]) (rest := []) [0, 1] 0 hg.1.1 ⟨hx, hb, hml, hown, hts⟩ (c_J5_append_3fe6f_in hg l D cy o8 b8 ml nn bx mm xq (by first | assumption | omega) (by first | assumption | omega) (by first | assumption | omega) (by first | assumption | omega)) (va_cwSU 1 hts gJ4_append_cf468_J5_append_3fe6f_s50 rfl rfl rfl (by decide +kernel) ⟨Nat.le_of_ble_eq_true rfl, Nat.le_of_ble_eq_true rfl⟩) hG hK hP hD hS hA rfl rfl (Eq.trans (b := [o8, b8]) rfl rfl) rfl rfl rfl hl.1 rfl (Nat.le_of_ble_eq_true rfl) dJ4_append_cf468_2 ⟨Nat.zero_le _, Nat.zero_le _⟩ (fun H locs hP hD hS => ?_)
  have hP : va_P D vwCl [(o8, .inr (1, [.ref b8, .int 0, .int ml, .int (nI (nn + 1))])), (b8, .inl (cy 1, mm, .inl (upd bx nn xq)))] H := hP
  have hD : va_D A [(o8, .inr (1, [.ref b8, .int 0, .int ml, .int (nI (nn + 1))])), (b8, .inl (cy 1, mm, .inl (upd bx nn xq)))] := hD
  refine lv_pop hx hb dJ4_append_cf468_5 rfl ?_
  refine lv_aload_n hx hb dJ4_append_cf468_6 rfl (lv_at hl 0 rfl) ?_
  exact zaret hend hx hb hr (Or.inl ⟨_, rfl⟩) hlk hK hP hD hS dJ4_append_cf468_7 rfl rfl

abbrev rmJ8_newLength_cabcc_g16 : Room := { frames := 1, cells := 0, slots := 0, locals := 21 }
set_option maxHeartbeats 4000000 in
set_option maxRecDepth 100000 in
theorem c_J8_newLength_cabcc_g16 {G : zG} (hg : zGN G) (l : Launch) (D : va_G) (cy : Nat → ClassId) : zM G D vwCl (zT cy) l yJ8_newLength_cabcc wsJ8_newLength_cabcc rmJ8_newLength_cabcc_g16 [.int 16, .int 1, .int 18] [] (some (.int 34)) [] := by
  refine zM_of (cc := cJ8_newLength_cabcc) (maxL := 4) (ret := (some .int)) (by decide) rfl (Nat.le_of_ble_eq_true rfl) ?_
  intro p e s m below meth c A Q hend hx hb hml hr hts hown hlk hG hK hP hD hA hS ls hl
  have hown : s.vm.findClass RJ8 = some m.cls := hown
  have hl : lv_has ls 4 [(0, .int 16), (1, .int 1), (2, .int 18)] := hl
  refine lv_iload_n hx hb dJ8_newLength_cabcc_0 rfl (lv_at hl 0 rfl) ?_
  refine lv_iload_n hx hb dJ8_newLength_cabcc_1 rfl (lv_at hl 1 rfl) ?_
  refine lv_iload_n hx hb dJ8_newLength_cabcc_2 rfl (lv_at hl 2 rfl) ?_
  refine va_mmax hx hb (hml.trans hl.1.symm) hown (hts _ (List.mem_of_getElem? (i := 1) rfl)) (hts _ (List.mem_of_getElem? (i := 2) rfl)) (hts _ (List.mem_of_getElem? (i := 3) rfl)) (hts _ (List.mem_of_getElem? (i := 4) rfl)) (Nat.le_of_ble_eq_true rfl) (Nat.le_of_ble_eq_true rfl) (Nat.zero_le _) (Nat.zero_le _) dJ8_newLength_cabcc_3 ?_
  refine z_top (y := 18) (by decide) ?_
  refine lv_iadd hx hb dJ8_newLength_cabcc_6 ?_
  refine z_top (y := 34) (by decide) ?_
  refine lv_istore_n (lv' := [(3, .int 34), (0, .int 16), (1, .int 1), (2, .int 18)]) hx hb dJ8_newLength_cabcc_7 rfl hl (by decide) rfl (fun ls hl => ?_)
  refine lv_iconst (v := 0) hx hb dJ8_newLength_cabcc_8 (by decide) ?_
  refine lv_iload_n hx hb dJ8_newLength_cabcc_9 rfl (lv_at hl 0 rfl) ?_
  refine lv_icmp_ge (tgt := 21) hx hb dJ8_newLength_cabcc_10 (by decide) (fun c_1 => ?_) (fun c_1 => ?_)
  · exact absurd c_1 (by decide)
  · refine lv_iload_n hx hb dJ8_newLength_cabcc_13 rfl (lv_at hl 0 rfl) ?_
    refine lv_ldc hx hb hown (hts _ (List.mem_of_getElem? (i := 5) rfl)) dJ8_newLength_cabcc_14 ?_
    refine lv_icmp_gt (tgt := 21) hx hb dJ8_newLength_cabcc_16 (by decide) (fun c_2 => ?_) (fun c_2 => ?_)
    · exact absurd c_2 (by decide)
    · refine lv_iload_n hx hb dJ8_newLength_cabcc_19 rfl (lv_at hl 0 rfl) ?_
      exact ziret hend hx hb hr hlk hK hP hD hS dJ8_newLength_cabcc_20 rfl rfl

abbrev rmJ5_newCapacity_0f7a4_g16 : Room := { frames := 2, cells := 0, slots := 0, locals := 44 }
set_option maxHeartbeats 4000000 in
set_option maxRecDepth 100000 in
theorem c_J5_newCapacity_0f7a4_g16 {G : zG} (hg : zGN G) (l : Launch) (D : va_G) (cy : Nat → ClassId) (o8 : Nat) (b8 : Nat) (ml : Int32) (nn : Nat) (bx : Nat → Int32) : zM G D vwCl (zT cy) l yJ5_newCapacity_0f7a4 wsJ5_newCapacity_0f7a4 rmJ5_newCapacity_0f7a4_g16 [.ref o8, .int 17] [(o8, .inr (1, [.ref b8, .int 0, .int ml, .int (nI nn)])), (b8, .inl (cy 1, 16, .inl bx))] (some (.int 34)) [(o8, .inr (1, [.ref b8, .int 0, .int ml, .int (nI nn)])), (b8, .inl (cy 1, 16, .inl bx))] := by
  refine zM_of (cc := cJ5_newCapacity_0f7a4) (maxL := 6) (ret := (some .int)) (by decide) rfl (Nat.le_of_ble_eq_true rfl) ?_
  intro p e s m below meth c A Q hend hx hb hml hr hts hown hlk hG hK hP hD hA hS ls hl
  have hown : s.vm.findClass RJ5 = some m.cls := hown
  have in_RJ4 : ∀ w ∈ u_ws RJ4 TJ4 4, w ∈ wsJ5_newCapacity_0f7a4 := by decide +kernel
  have hl : lv_has ls 6 [(0, .ref o8), (1, .int 17)] := hl
  refine lv_aload_n hx hb dJ5_newCapacity_0f7a4_0 rfl (lv_at hl 0 rfl) ?_
  refine va_get (D := D) (ci := 1) (v := .ref b8) (C := RJ4) (T := TJ4) (N := 4) hx hb hts in_RJ4 hown hK hP 0 rfl rfl 0 (by decide) (hts _ (List.mem_of_getElem? (i := 1) rfl)) (fun _ h9 => h9) rfl dJ5_newCapacity_0f7a4_1 ?_
  refine va_alen (v := 16) hx hb hK hP 1 1 rfl rfl rfl dJ5_newCapacity_0f7a4_4 ?_
  refine lv_istore_n (lv' := [(2, .int 16), (0, .ref o8), (1, .int 17)]) hx hb dJ5_newCapacity_0f7a4_5 rfl hl (by decide) rfl (fun ls hl => ?_)
  refine lv_iload_n hx hb dJ5_newCapacity_0f7a4_6 rfl (lv_at hl 2 rfl) ?_
  refine lv_aload_n hx hb dJ5_newCapacity_0f7a4_7 rfl (lv_at hl 1 rfl) ?_
  refine va_get (D := D) (ci := 1) (v := .int 0) (C := RJ4) (T := TJ4) (N := 4) hx hb hts in_RJ4 hown hK hP 0 rfl rfl 1 (by decide) (hts _ (List.mem_of_getElem? (i := 2) rfl)) (fun _ h9 => h9) rfl dJ5_newCapacity_0f7a4_8 ?_
  refine lv_ishl hx hb dJ5_newCapacity_0f7a4_11 ?_
  refine z_top (y := 17) (by decide) ?_
  refine lv_istore_n (lv' := [(3, .int 17), (2, .int 16), (0, .ref o8), (1, .int 17)]) hx hb dJ5_newCapacity_0f7a4_12 rfl hl (by decide) rfl (fun ls hl => ?_)
  refine lv_iload_n hx hb dJ5_newCapacity_0f7a4_13 rfl (lv_at hl 0 rfl) ?_
  refine lv_iload_n hx hb dJ5_newCapacity_0f7a4_14 rfl (lv_at hl 1 rfl) ?_
  refine lv_isub hx hb dJ5_newCapacity_0f7a4_15 ?_
  refine z_top (y := 1) (by decide) ?_
  refine lv_istore (lv' := [(4, .int 1), (3, .int 17), (2, .int 16), (0, .ref o8), (1, .int 17)]) hx hb dJ5_newCapacity_0f7a4_16 hl (by decide) rfl (fun ls hl => ?_)
  refine lv_iload_n hx hb dJ5_newCapacity_0f7a4_18 rfl (lv_at hl 2 rfl) ?_
  refine lv_iload hx hb dJ5_newCapacity_0f7a4_19 (lv_at hl 0 rfl) ?_
  refine lv_iload_n hx hb dJ5_newCapacity_0f7a4_21 rfl (lv_at hl 2 rfl) ?_
  refine lv_iconst (v := 2) hx hb dJ5_newCapacity_0f7a4_22 (by decide) ?_
  refine lv_aload_n hx hb dJ5_newCapacity_0f7a4_23 rfl (lv_at hl 3 rfl) ?_
  refine va_get (D := D) (ci := 1) (v := .int 0) (C := RJ4) (T := TJ4) (N := 4) hx hb hts in_RJ4 hown hK hP 0 rfl rfl 1 (by decide) (hts _ (List.mem_of_getElem? (i := 2) rfl)) (fun _ h9 => h9) rfl dJ5_newCapacity_0f7a4_24 ?_
  refine lv_ishl hx hb dJ5_newCapacity_0f7a4_27 ?_
  refine z_top (y := 2) (by decide) ?_
  refine lv_iadd hx hb dJ5_newCapacity_0f7a4_28 ?_
  refine z_top (y := 18) (by decide) ?_
  refine zcS (As := [.int 16, .int 1, .int 18]) (rest := []) [] hg.1 ⟨hx, hb, hml, hown, hts⟩ (c_J8_newLength_cabcc_g16 hg l D cy) (va_cwS 3 hts gJ5_newCapacity_0f7a4_J8_newLength_cabcc rfl rfl rfl (by decide +kernel) ⟨Nat.le_of_ble_eq_true rfl, Nat.le_of_ble_eq_true rfl⟩) hG hK hP hD hS hA rfl rfl rfl  rfl hl.1 rfl (Nat.le_of_ble_eq_true rfl) dJ5_newCapacity_0f7a4_29 ⟨Nat.zero_le _, Nat.zero_le _⟩ (fun H locs hP hD hS => ?_)
  have hP : va_P D vwCl [(o8, .inr (1, [.ref b8, .int 0, .int ml, .int (nI nn)])), (b8, .inl (cy 1, 16, .inl bx))] H := hP
  have hD : va_D A [(o8, .inr (1, [.ref b8, .int 0, .int ml, .int (nI nn)])), (b8, .inl (cy 1, 16, .inl bx))] := hD
  refine lv_istore (lv' := [(5, .int 34), (4, .int 1), (3, .int 17), (2, .int 16), (0, .ref o8), (1, .int 17)]) hx hb dJ5_newCapacity_0f7a4_32 hl (by decide) rfl (fun ls hl => ?_)
  refine lv_iload hx hb dJ5_newCapacity_0f7a4_34 (lv_at hl 0 rfl) ?_
  refine lv_ldc hx hb hown (hts _ (List.mem_of_getElem? (i := 3) rfl)) dJ5_newCapacity_0f7a4_36 ?_
  refine lv_icmp_ne (tgt := 51) hx hb dJ5_newCapacity_0f7a4_38 (by decide) (fun c_1 => ?_) (fun c_1 => ?_)
  · refine lv_iload hx hb dJ5_newCapacity_0f7a4_51 (lv_at hl 0 rfl) ?_
    refine lv_aload_n hx hb dJ5_newCapacity_0f7a4_53 rfl (lv_at hl 4 rfl) ?_
    refine va_get (D := D) (ci := 1) (v := .int 0) (C := RJ4) (T := TJ4) (N := 4) hx hb hts in_RJ4 hown hK hP 0 rfl rfl 1 (by decide) (hts _ (List.mem_of_getElem? (i := 2) rfl)) (fun _ h9 => h9) rfl dJ5_newCapacity_0f7a4_54 ?_
    refine lv_ishr hx hb dJ5_newCapacity_0f7a4_57 ?_
    refine z_top (y := 34) (by decide) ?_
    exact ziret hend hx hb hr hlk hK hP hD hS dJ5_newCapacity_0f7a4_58 rfl rfl
  · exact absurd c_1 (by decide)

abbrev rmJ7_copyOf_9075b_g16 : Room := { frames := 1, cells := 1, slots := 34, locals := 60 }
set_option maxHeartbeats 4000000 in
set_option maxRecDepth 100000 in
theorem c_J7_copyOf_9075b_g16 {G : zG} (hg : zGN G) (l : Launch) (D : va_G) (cy : Nat → ClassId) (b8 : Nat) (bx : Nat → Int32) (hfb : ∀ i, i < 16 → fits .byte (.int (bx i)) = true) : zMN G D vwCl (zT cy) l yJ7_copyOf_9075b wsJ7_copyOf_9075b rmJ7_copyOf_9075b_g16 [.ref b8, .int 34] [(b8, .inl (cy 1, 16, .inl bx))] (fun qs => (some (.ref (qs.getD 0 0)))) 1 (fun qs => [(b8, .inl (cy 1, 16, .inl bx))]) (fun qs => [(qs.getD 0 0, .inl (cy 1, 34, .inl (va_cpy bx (fun _ => 0) 0 0 16)))]) 1 34 := by
  refine zMN_of (cc := cJ7_copyOf_9075b) (maxL := 3) (ret := (some (.array .byte))) (by decide) rfl (Nat.le_of_ble_eq_true rfl) ?_
  intro p e s m below meth c A Q hend hx hb hml hr hts hown hlk hG hK hP hD hA hS ls hl
  have hown : s.vm.findClass RJ7 = some m.cls := hown
  have hl : lv_has ls 3 [(0, .ref b8), (1, .int 34)] := hl
  refine lv_iload_n hx hb dJ7_copyOf_9075b_0 rfl (lv_at hl 1 rfl) ?_
  refine lv_aload_n hx hb dJ7_copyOf_9075b_1 rfl (lv_at hl 0 rfl) ?_
  refine va_alen (v := 16) hx hb hK hP 0 1 rfl rfl rfl dJ7_copyOf_9075b_2 ?_
  refine lv_icmp_ne (tgt := 14) hx hb dJ7_copyOf_9075b_3 (by decide) (fun c_1 => ?_) (fun c_1 => ?_)
  · refine lv_iload_n hx hb dJ7_copyOf_9075b_14 rfl (lv_at hl 1 rfl) ?_
    refine znewa (atype := .byte) (ty := .byte) (a0 := (34, .inl (fun _ => 0))) (t0 := 1) hx hb (hts _ (List.mem_of_getElem? (i := 7) rfl)) rfl rfl (fun _ z => by cases z) hK hP hD hS hA (fun _ => rfl) (by decide) (by decide) (Nat.le_of_ble_eq_true rfl) (Nat.le_of_ble_eq_true rfl) (Nat.le_of_ble_eq_true rfl) dJ7_copyOf_9075b_15 (fun q_2 H hP hD hS => ?_)
    have hP : va_P D vwCl [(b8, .inl (cy 1, 16, .inl bx)), (q_2, .inl (cy 1, 34, .inl (fun _ => 0)))] H := hP
    have hD : va_D A [(b8, .inl (cy 1, 16, .inl bx)), (q_2, .inl (cy 1, 34, .inl (fun _ => 0)))] := hD
    refine lv_astore_n (lv' := [(2, .ref q_2), (0, .ref b8), (1, .int 34)]) hx hb dJ7_copyOf_9075b_17 rfl hl (by decide) rfl (fun ls hl => ?_)
    refine lv_aload_n hx hb dJ7_copyOf_9075b_18 rfl (lv_at hl 1 rfl) ?_
    refine lv_iconst (v := 0) hx hb dJ7_copyOf_9075b_19 (by decide) ?_
    refine lv_aload_n hx hb dJ7_copyOf_9075b_20 rfl (lv_at hl 0 rfl) ?_
    refine lv_iconst (v := 0) hx hb dJ7_copyOf_9075b_21 (by decide) ?_
    refine lv_aload_n hx hb dJ7_copyOf_9075b_22 rfl (lv_at hl 1 rfl) ?_
    refine va_alen (v := 16) hx hb hK hP 0 1 rfl rfl rfl dJ7_copyOf_9075b_23 ?_
    refine lv_iload_n hx hb dJ7_copyOf_9075b_24 rfl (lv_at hl 2 rfl) ?_
    refine va_mmin hx hb (hml.trans hl.1.symm) hown (hts _ (List.mem_of_getElem? (i := 8) rfl)) (hts _ (List.mem_of_getElem? (i := 9) rfl)) (hts _ (List.mem_of_getElem? (i := 10) rfl)) (hts _ (List.mem_of_getElem? (i := 11) rfl)) (Nat.le_of_ble_eq_true rfl) (Nat.le_of_ble_eq_true rfl) (Nat.le_of_ble_eq_true rfl) (Nat.le_of_ble_eq_true rfl) dJ7_copyOf_9075b_25 ?_
    refine z_top (y := 16) (by decide) ?_
    refine zcopyB 0 1 hx hb (hml.trans hl.1.symm) hown (hts _ (List.mem_of_getElem? (i := 12) rfl)) (hts _ (List.mem_of_getElem? (i := 13) rfl)) (hts _ (List.mem_of_getElem? (i := 14) rfl)) (hts _ (List.mem_of_getElem? (i := 15) rfl)) hK hP hD hS rfl rfl rfl (by decide) (by decide) (by decide) hfb (Nat.le_of_ble_eq_true rfl) (Nat.le_of_ble_eq_true rfl) dJ7_copyOf_9075b_28 (fun H locs hP hD hS => ?_)
    have hP : va_P D vwCl [(b8, .inl (cy 1, 16, .inl bx)), (q_2, .inl (cy 1, 34, .inl (va_cpy bx (fun _ => 0) 0 0 16)))] H := hP
    have hD : va_D A [(b8, .inl (cy 1, 16, .inl bx)), (q_2, .inl (cy 1, 34, .inl (va_cpy bx (fun _ => 0) 0 0 16)))] := hD
    refine lv_aload_n hx hb dJ7_copyOf_9075b_31 rfl (lv_at hl 0 rfl) ?_
    exact znaret [q_2] rfl hend hx hb hr (Or.inr ⟨_, rfl⟩) hlk hK hP hD hS dJ7_copyOf_9075b_32 rfl rfl
  · exact absurd c_1 (by decide)

abbrev rmJ5_ensureCapacityInternal_d00df_g16 : Room := { frames := 3, cells := 1, slots := 34, locals := 82 }
set_option maxHeartbeats 4000000 in
set_option maxRecDepth 100000 in
theorem c_J5_ensureCapacityInternal_d00df_g16 {G : zG} (hg : zGJ G) (l : Launch) (D : va_G) (cy : Nat → ClassId) (o8 : Nat) (b8 : Nat) (ml : Int32) (nn : Nat) (bx : Nat → Int32) (hfb : ∀ i, i < 16 → fits .byte (.int (bx i)) = true) : zMN G D vwCl (zT cy) l yJ5_ensureCapacityInternal_d00df wsJ5_ensureCapacityInternal_d00df rmJ5_ensureCapacityInternal_d00df_g16 [.ref o8, .int 17] [(o8, .inr (1, [.ref b8, .int 0, .int ml, .int (nI nn)])), (b8, .inl (cy 1, 16, .inl bx))] (fun qs => none) 1 (fun qs => [(o8, .inr (1, [.ref (qs.getD 0 0), .int 0, .int ml, .int (nI nn)])), (b8, .inl (cy 1, 16, .inl bx))]) (fun qs => [(qs.getD 0 0, .inl (cy 1, 34, .inl (va_cpy bx (fun _ => 0) 0 0 16)))]) 1 34 := by
  refine zMN_of (cc := cJ5_ensureCapacityInternal_d00df) (maxL := 3) (ret := none) (by decide) rfl (Nat.le_of_ble_eq_true rfl) ?_
  intro p e s m below meth c A Q hend hx hb hml hr hts hown hlk hG hK hP hD hA hS ls hl
  have hown : s.vm.findClass RJ5 = some m.cls := hown
  have in_RJ4 : ∀ w ∈ u_ws RJ4 TJ4 4, w ∈ wsJ5_ensureCapacityInternal_d00df := by decide +kernel
  have hl : lv_has ls 3 [(0, .ref o8), (1, .int 17)] := hl
  refine lv_aload_n hx hb dJ5_ensureCapacityInternal_d00df_0 rfl (lv_at hl 0 rfl) ?_
  refine va_get (D := D) (ci := 1) (v := .ref b8) (C := RJ4) (T := TJ4) (N := 4) hx hb hts in_RJ4 hown hK hP 0 rfl rfl 0 (by decide) (hts _ (List.mem_of_getElem? (i := 1) rfl)) (fun _ h9 => h9) rfl dJ5_ensureCapacityInternal_d00df_1 ?_
  refine va_alen (v := 16) hx hb hK hP 1 1 rfl rfl rfl dJ5_ensureCapacityInternal_d00df_4 ?_
  refine lv_aload_n hx hb dJ5_ensureCapacityInternal_d00df_5 rfl (lv_at hl 0 rfl) ?_
  refine va_get (D := D) (ci := 1) (v := .int 0) (C := RJ4) (T := TJ4) (N := 4) hx hb hts in_RJ4 hown hK hP 0 rfl rfl 1 (by decide) (hts _ (List.mem_of_getElem? (i := 2) rfl)) (fun _ h9 => h9) rfl dJ5_ensureCapacityInternal_d00df_6 ?_
  refine lv_ishr hx hb dJ5_ensureCapacityInternal_d00df_9 ?_
  refine z_top (y := 16) (by decide) ?_
  refine lv_istore_n (lv' := [(2, .int 16), (0, .ref o8), (1, .int 17)]) hx hb dJ5_ensureCapacityInternal_d00df_10 rfl hl (by decide) rfl (fun ls hl => ?_)
  refine lv_iload_n hx hb dJ5_ensureCapacityInternal_d00df_11 rfl (lv_at hl 2 rfl) ?_
  refine lv_iload_n hx hb dJ5_ensureCapacityInternal_d00df_12 rfl (lv_at hl 0 rfl) ?_
  refine lv_isub hx hb dJ5_ensureCapacityInternal_d00df_13 ?_
  refine z_top (y := 1) (by decide) ?_
  refine lv_if_le (tgt := 38) hx hb dJ5_ensureCapacityInternal_d00df_14 (by decide) (fun c_1 => ?_) (fun c_1 => ?_)
  · exact absurd c_1 (by decide)
  · refine lv_aload_n hx hb dJ5_ensureCapacityInternal_d00df_17 rfl (lv_at hl 1 rfl) ?_
    refine lv_aload_n hx hb dJ5_ensureCapacityInternal_d00df_18 rfl (lv_at hl 1 rfl) ?_
    refine va_get (D := D) (ci := 1) (v := .ref b8) (C := RJ4) (T := TJ4) (N := 4) hx hb hts in_RJ4 hown hK hP 0 rfl rfl 0 (by decide) (hts _ (List.mem_of_getElem? (i := 1) rfl)) (fun _ h9 => h9) rfl dJ5_ensureCapacityInternal_d00df_19 ?_
    refine lv_aload_n hx hb dJ5_ensureCapacityInternal_d00df_22 rfl (lv_at hl 1 rfl) ?_
    refine lv_iload_n hx hb dJ5_ensureCapacityInternal_d00df_23 rfl (lv_at hl 2 rfl) ?_
    refine zcU (As := [.int 17]) (rest := [.ref b8, .ref o8]) [0, 1] 0 hg.1.1 ⟨hx, hb, hml, hown, hts⟩ (c_J5_newCapacity_0f7a4_g16 hg.1 l D cy o8 b8 ml nn bx) (va_cwU 1 hts gJ5_ensureCapacityInternal_d00df_J5_newCapacity_0f7a4_u104J4 rfl rfl rfl rfl (by decide +kernel) ⟨Nat.le_of_ble_eq_true rfl, Nat.le_of_ble_eq_true rfl⟩) hG hK hP hD hS hA rfl rfl rfl rfl rfl rfl hl.1 rfl (Nat.le_of_ble_eq_true rfl) dJ5_ensureCapacityInternal_d00df_24 ⟨Nat.le_of_ble_eq_true rfl, Nat.le_of_ble_eq_true rfl⟩ (fun H locs hP hD hS => ?_)
    have hP : va_P D vwCl [(o8, .inr (1, [.ref b8, .int 0, .int ml, .int (nI nn)])), (b8, .inl (cy 1, 16, .inl bx))] H := hP
    have hD : va_D A [(o8, .inr (1, [.ref b8, .int 0, .int ml, .int (nI nn)])), (b8, .inl (cy 1, 16, .inl bx))] := hD
    refine lv_aload_n hx hb dJ5_ensureCapacityInternal_d00df_27 rfl (lv_at hl 1 rfl) ?_
    refine va_get (D := D) (ci := 1) (v := .int 0) (C := RJ4) (T := TJ4) (N := 4) hx hb hts in_RJ4 hown hK hP 0 rfl rfl 1 (by decide) (hts _ (List.mem_of_getElem? (i := 2) rfl)) (fun _ h9 => h9) rfl dJ5_ensureCapacityInternal_d00df_28 ?_
    refine lv_ishl hx hb dJ5_ensureCapacityInternal_d00df_31 ?_
    refine z_top (y := 34) (by decide) ?_
    refine zcnS (As := [.ref b8, .int 34]) (rest := [.ref o8]) [1] hg.1.1 ⟨hx, hb, hml, hown, hts⟩ (c_J7_copyOf_9075b_g16 hg.1 l D cy b8 bx (by first | assumption | omega)) (va_cwS 2 hts gJ5_ensureCapacityInternal_d00df_J7_copyOf_9075b rfl rfl rfl (by decide +kernel) ⟨Nat.le_of_ble_eq_true rfl, Nat.le_of_ble_eq_true rfl⟩) hG hK hP hD hS hA rfl rfl (fun _ _ => rfl)  rfl hl.1 rfl (Nat.le_of_ble_eq_true rfl) dJ5_ensureCapacityInternal_d00df_32 ⟨Nat.le_of_ble_eq_true rfl, Nat.le_of_ble_eq_true rfl⟩ (fun qs_2 H locs hn9 hP hD hS => ?_)
    have hP : va_P D vwCl [(o8, .inr (1, [.ref b8, .int 0, .int ml, .int (nI nn)])), (b8, .inl (cy 1, 16, .inl bx)), (qs_2.getD 0 0, .inl (cy 1, 34, .inl (va_cpy bx (fun _ => 0) 0 0 16)))] H := hP
    have hD : va_D A [(o8, .inr (1, [.ref b8, .int 0, .int ml, .int (nI nn)])), (b8, .inl (cy 1, 16, .inl bx)), (qs_2.getD 0 0, .inl (cy 1, 34, .inl (va_cpy bx (fun _ => 0) 0 0 16)))] := hD
    refine va_put (D := D) (ci := 1) (v := .ref (qs_2.getD 0 0)) (ty := .array .byte) (C := RJ4) (T := TJ4) (N := 4) hx hb hts in_RJ4 tyJ4 tyJ4_ok nmJ4 hown hK hP hD hS 0 rfl rfl 0 (by decide) (hts _ (List.mem_of_getElem? (i := 1) rfl)) (fun _ h9 => h9) rfl (by decide +kernel) rfl rfl (Nat.le_of_ble_eq_true rfl) dJ5_ensureCapacityInternal_d00df_35 (fun H locs hP hD hS => ?_)
    have hP : va_P D vwCl [(o8, .inr (1, [.ref (qs_2.getD 0 0), .int 0, .int ml, .int (nI nn)])), (b8, .inl (cy 1, 16, .inl bx)), (qs_2.getD 0 0, .inl (cy 1, 34, .inl (va_cpy bx (fun _ => 0) 0 0 16)))] H := hP
    have hD : va_D A [(o8, .inr (1, [.ref (qs_2.getD 0 0), .int 0, .int ml, .int (nI nn)])), (b8, .inl (cy 1, 16, .inl bx)), (qs_2.getD 0 0, .inl (cy 1, 34, .inl (va_cpy bx (fun _ => 0) 0 0 16)))] := hD
    exact znvret [qs_2.getD 0 0] rfl hend hx hb hr hlk hK hP hD hS dJ5_ensureCapacityInternal_d00df_38 rfl rfl

abbrev rmJ5_append_3fe6f_g16 : Room := { frames := 4, cells := 1, slots := 34, locals := 104 }
set_option maxHeartbeats 4000000 in
set_option maxRecDepth 100000 in
theorem c_J5_append_3fe6f_g16 {G : zG} (hg : zGJ G) (l : Launch) (D : va_G) (cy : Nat → ClassId) (o8 : Nat) (b8 : Nat) (ml : Int32) (bx : Nat → Int32) (xq : Int32) (hfb : ∀ i, i < 16 → fits .byte (.int (bx i)) = true) (hxq : xq ≤ 255) (hby : vp_nar .byte xq.toInt8.toInt32 = xq) : zMN G D vwCl (zT cy) l yJ5_append_3fe6f wsJ5_append_3fe6f rmJ5_append_3fe6f_g16 [.ref o8, .int xq] [(o8, .inr (1, [.ref b8, .int 0, .int ml, .int (nI 16)])), (b8, .inl (cy 1, 16, .inl bx))] (fun qs => (some (.ref o8))) 1 (fun qs => [(o8, .inr (1, [.ref (qs.getD 0 0), .int 0, .int ml, .int (nI 17)])), (b8, .inl (cy 1, 16, .inl bx))]) (fun qs => [(qs.getD 0 0, .inl (cy 1, 34, .inl (upd (va_cpy bx (fun _ => 0) 0 0 16) 16 xq)))]) 1 34 := by
  refine zMN_of (cc := cJ5_append_3fe6f) (maxL := 2) (ret := (some (.object "java/lang/AbstractStringBuilder"))) (by decide) rfl (Nat.le_of_ble_eq_true rfl) ?_
  intro p e s m below meth c A Q hend hx hb hml hr hts hown hlk hG hK hP hD hA hS ls hl
  have hown : s.vm.findClass RJ5 = some m.cls := hown
  have in_RJ4 : ∀ w ∈ u_ws RJ4 TJ4 4, w ∈ wsJ5_append_3fe6f := by decide +kernel
  have hl : lv_has ls 2 [(0, .ref o8), (1, .int xq)] := hl
  refine lv_aload_n hx hb dJ5_append_3fe6f_0 rfl (lv_at hl 0 rfl) ?_
  refine lv_aload_n hx hb dJ5_append_3fe6f_1 rfl (lv_at hl 0 rfl) ?_
  refine va_get (D := D) (ci := 1) (v := .int (nI 16)) (C := RJ4) (T := TJ4) (N := 4) hx hb hts in_RJ4 hown hK hP 0 rfl rfl 3 (by decide) (hts _ (List.mem_of_getElem? (i := 1) rfl)) (fun _ h9 => h9) rfl dJ5_append_3fe6f_2 ?_
  refine lv_iconst (v := 1) hx hb dJ5_append_3fe6f_5 (by decide) ?_
  refine lv_iadd hx hb dJ5_append_3fe6f_6 ?_
  refine z_top (y := 17) (by decide) ?_
  refine zcnU (As := [.int 17]) (rest := []) [0, 1] 0 hg.1.1 ⟨hx, hb, hml, hown, hts⟩ (c_J5_ensureCapacityInternal_d00df_g16 hg l D cy o8 b8 ml 16 bx (by first | assumption | omega)) (va_cwU 1 hts gJ5_append_3fe6f_J5_ensureCapacityInternal_d00df_u100J4 rfl rfl rfl rfl (by decide +kernel) ⟨Nat.le_of_ble_eq_true rfl, Nat.le_of_ble_eq_true rfl⟩) hG hK hP hD hS hA rfl rfl (fun _ _ => rfl) rfl rfl rfl hl.1 rfl (Nat.le_of_ble_eq_true rfl) dJ5_append_3fe6f_7 ⟨Nat.le_of_ble_eq_true rfl, Nat.le_of_ble_eq_true rfl⟩ (fun qs_1 H locs hn9 hP hD hS => ?_)
  have hP : va_P D vwCl [(o8, .inr (1, [.ref (qs_1.getD 0 0), .int 0, .int ml, .int (nI 16)])), (b8, .inl (cy 1, 16, .inl bx)), (qs_1.getD 0 0, .inl (cy 1, 34, .inl (va_cpy bx (fun _ => 0) 0 0 16)))] H := hP
  have hD : va_D A [(o8, .inr (1, [.ref (qs_1.getD 0 0), .int 0, .int ml, .int (nI 16)])), (b8, .inl (cy 1, 16, .inl bx)), (qs_1.getD 0 0, .inl (cy 1, 34, .inl (va_cpy bx (fun _ => 0) 0 0 16)))] := hD
  refine lv_aload_n hx hb dJ5_append_3fe6f_10 rfl (lv_at hl 0 rfl) ?_
  refine zcU (As := []) (rest := []) [0] 0 hg.1.1 ⟨hx, hb, hml, hown, hts⟩ (c_J5_isLatin1_aae02 hg l D cy o8 (qs_1.getD 0 0) ml 16) (va_cwU 0 hts gJ5_append_3fe6f_J5_isLatin1_aae02_u83J4 rfl rfl rfl rfl (by decide +kernel) ⟨Nat.le_of_ble_eq_true rfl, Nat.le_of_ble_eq_true rfl⟩) hG hK hP hD hS hA rfl rfl rfl rfl rfl rfl hl.1 rfl (Nat.le_of_ble_eq_true rfl) dJ5_append_3fe6f_11 ⟨Nat.le_of_ble_eq_true rfl, Nat.le_of_ble_eq_true rfl⟩ (fun H locs hP hD hS => ?_)
  have hP : va_P D vwCl [(o8, .inr (1, [.ref (qs_1.getD 0 0), .int 0, .int ml, .int (nI 16)])), (b8, .inl (cy 1, 16, .inl bx)), (qs_1.getD 0 0, .inl (cy 1, 34, .inl (va_cpy bx (fun _ => 0) 0 0 16)))] H := hP
  have hD : va_D A [(o8, .inr (1, [.ref (qs_1.getD 0 0), .int 0, .int ml, .int (nI 16)])), (b8, .inl (cy 1, 16, .inl bx)), (qs_1.getD 0 0, .inl (cy 1, 34, .inl (va_cpy bx (fun _ => 0) 0 0 16)))] := hD
  refine lv_if_eq (tgt := 45) hx hb dJ5_append_3fe6f_14 (by decide) (fun c_2 => ?_) (fun c_2 => ?_)
  · exact absurd c_2 (by decide)
  · refine lv_iload_n hx hb dJ5_append_3fe6f_17 rfl (lv_at hl 1 rfl) ?_
    refine zcS (As := [.int xq]) (rest := []) [] hg.1.1 ⟨hx, hb, hml, hown, hts⟩ (c_J1_canEncode_fc78d hg.1 l D cy xq (by first | assumption | omega)) (va_cwS 1 hts gJ5_append_3fe6f_J1_canEncode_fc78d rfl rfl rfl (by decide +kernel) ⟨Nat.le_of_ble_eq_true rfl, Nat.le_of_ble_eq_true rfl⟩) hG hK hP hD hS hA rfl rfl rfl  rfl hl.1 rfl (Nat.le_of_ble_eq_true rfl) dJ5_append_3fe6f_18 ⟨Nat.le_of_ble_eq_true rfl, Nat.le_of_ble_eq_true rfl⟩ (fun H locs hP hD hS => ?_)
    have hP : va_P D vwCl [(o8, .inr (1, [.ref (qs_1.getD 0 0), .int 0, .int ml, .int (nI 16)])), (b8, .inl (cy 1, 16, .inl bx)), (qs_1.getD 0 0, .inl (cy 1, 34, .inl (va_cpy bx (fun _ => 0) 0 0 16)))] H := hP
    have hD : va_D A [(o8, .inr (1, [.ref (qs_1.getD 0 0), .int 0, .int ml, .int (nI 16)])), (b8, .inl (cy 1, 16, .inl bx)), (qs_1.getD 0 0, .inl (cy 1, 34, .inl (va_cpy bx (fun _ => 0) 0 0 16)))] := hD
    refine lv_if_eq (tgt := 45) hx hb dJ5_append_3fe6f_21 (by decide) (fun c_3 => ?_) (fun c_3 => ?_)
    · exact absurd c_3 (by decide)
    · refine lv_aload_n hx hb dJ5_append_3fe6f_24 rfl (lv_at hl 0 rfl) ?_
      refine va_get (D := D) (ci := 1) (v := .ref (qs_1.getD 0 0)) (C := RJ4) (T := TJ4) (N := 4) hx hb hts in_RJ4 hown hK hP 0 rfl rfl 0 (by decide) (hts _ (List.mem_of_getElem? (i := 2) rfl)) (fun _ h9 => h9) rfl dJ5_append_3fe6f_25 ?_
      refine lv_aload_n hx hb dJ5_append_3fe6f_28 rfl (lv_at hl 0 rfl) ?_
      refine lv_dup hx hb dJ5_append_3fe6f_29 rfl ?_
      refine va_get (D := D) (ci := 1) (v := .int (nI 16)) (C := RJ4) (T := TJ4) (N := 4) hx hb hts in_RJ4 hown hK hP 0 rfl rfl 3 (by decide) (hts _ (List.mem_of_getElem? (i := 1) rfl)) (fun _ h9 => h9) rfl dJ5_append_3fe6f_30 ?_
      refine lv_dup_x1 hx hb dJ5_append_3fe6f_33 rfl rfl ?_
      refine lv_iconst (v := 1) hx hb dJ5_append_3fe6f_34 (by decide) ?_
      refine lv_iadd hx hb dJ5_append_3fe6f_35 ?_
      refine z_top (y := nI 17) (by decide) ?_
      refine va_put (D := D) (ci := 1) (v := .int (nI 17)) (ty := .int) (C := RJ4) (T := TJ4) (N := 4) hx hb hts in_RJ4 tyJ4 tyJ4_ok nmJ4 hown hK hP hD hS 0 rfl rfl 3 (by decide) (hts _ (List.mem_of_getElem? (i := 1) rfl)) (fun _ h9 => h9) rfl (by decide +kernel) rfl rfl (Nat.le_of_ble_eq_true rfl) dJ5_append_3fe6f_36 (fun H locs hP hD hS => ?_)
      have hP : va_P D vwCl [(o8, .inr (1, [.ref (qs_1.getD 0 0), .int 0, .int ml, .int (nI 17)])), (b8, .inl (cy 1, 16, .inl bx)), (qs_1.getD 0 0, .inl (cy 1, 34, .inl (va_cpy bx (fun _ => 0) 0 0 16)))] H := hP
      have hD : va_D A [(o8, .inr (1, [.ref (qs_1.getD 0 0), .int 0, .int ml, .int (nI 17)])), (b8, .inl (cy 1, 16, .inl bx)), (qs_1.getD 0 0, .inl (cy 1, 34, .inl (va_cpy bx (fun _ => 0) 0 0 16)))] := hD
      refine lv_iload_n hx hb dJ5_append_3fe6f_39 rfl (lv_at hl 1 rfl) ?_
      refine lv_i2b hx hb dJ5_append_3fe6f_40 rfl ?_
      refine zbast (x' := xq) 2 16 hx hb hK hP hD hS rfl rfl (by omega) (by omega) hby dJ5_append_3fe6f_41 (fun H locs hP hD hS => ?_)
      have hP : va_P D vwCl [(o8, .inr (1, [.ref (qs_1.getD 0 0), .int 0, .int ml, .int (nI 17)])), (b8, .inl (cy 1, 16, .inl bx)), (qs_1.getD 0 0, .inl (cy 1, 34, .inl (upd (va_cpy bx (fun _ => 0) 0 0 16) 16 xq)))] H := hP
      have hD : va_D A [(o8, .inr (1, [.ref (qs_1.getD 0 0), .int 0, .int ml, .int (nI 17)])), (b8, .inl (cy 1, 16, .inl bx)), (qs_1.getD 0 0, .inl (cy 1, 34, .inl (upd (va_cpy bx (fun _ => 0) 0 0 16) 16 xq)))] := hD
      refine lv_goto (tgt := 75) hx hb dJ5_append_3fe6f_42 (by decide) ?_
      refine lv_aload_n hx hb dJ5_append_3fe6f_75 rfl (lv_at hl 0 rfl) ?_
      exact znaret [qs_1.getD 0 0] rfl hend hx hb hr (Or.inl ⟨_, rfl⟩) hlk hK hP hD hS dJ5_append_3fe6f_76 rfl rfl

abbrev rmJ4_append_cf468_g16 : Room := { frames := 5, cells := 1, slots := 34, locals := 125 }
set_option maxHeartbeats 4000000 in
set_option maxRecDepth 100000 in
theorem c_J4_append_cf468_g16 {G : zG} (hg : zGJ G) (l : Launch) (D : va_G) (cy : Nat → ClassId) (o8 : Nat) (b8 : Nat) (ml : Int32) (bx : Nat → Int32) (xq : Int32) (hfb : ∀ i, i < 16 → fits .byte (.int (bx i)) = true) (hxq : xq ≤ 255) (hby : vp_nar .byte xq.toInt8.toInt32 = xq) : zMN G D vwCl (zT cy) l yJ4_append_cf468 wsJ4_append_cf468 rmJ4_append_cf468_g16 [.ref o8, .int xq] [(o8, .inr (1, [.ref b8, .int 0, .int ml, .int (nI 16)])), (b8, .inl (cy 1, 16, .inl bx))] (fun qs => (some (.ref o8))) 1 (fun qs => [(o8, .inr (1, [.ref (qs.getD 0 0), .int 0, .int ml, .int (nI 17)])), (b8, .inl (cy 1, 16, .inl bx))]) (fun qs => [(qs.getD 0 0, .inl (cy 1, 34, .inl (upd (va_cpy bx (fun _ => 0) 0 0 16) 16 xq)))]) 1 34 := by
  refine zMN_of (cc := cJ4_append_cf468) (maxL := 2) (ret := (some (.object "java/lang/StringBuilder"))) (by decide) rfl (Nat.le_of_ble_eq_true rfl) ?_
  intro p e s m below meth c A Q hend hx hb hml hr hts hown hlk hG hK hP hD hA hS ls hl
  have hown : s.vm.findClass RJ4 = some m.cls := hown
  have hl : lv_has ls 2 [(0, .ref o8), (1, .int xq)] := hl
  refine lv_aload_n hx hb dJ4_append_cf468_0 rfl (lv_at hl 0 rfl) ?_
  refine lv_iload_n hx hb dJ4_append_cf468_1 rfl (lv_at hl 1 rfl) ?_
  refine zcnSU (As := [.int xq]) (rest := []) [0, 1] 0 hg.1.1 ⟨hx, hb, hml, hown, hts⟩ (c_J5_append_3fe6f_g16 hg l D cy o8 b8 ml bx xq (by first | assumption | omega) (by first | assumption | omega) (by first | assumption | omega)) (va_cwSU 1 hts gJ4_append_cf468_J5_append_3fe6f_s50 rfl rfl rfl (by decide +kernel) ⟨Nat.le_of_ble_eq_true rfl, Nat.le_of_ble_eq_true rfl⟩) hG hK hP hD hS hA rfl rfl (fun _ _ => rfl) rfl rfl rfl hl.1 rfl (Nat.le_of_ble_eq_true rfl) dJ4_append_cf468_2 ⟨Nat.le_of_ble_eq_true rfl, Nat.le_of_ble_eq_true rfl⟩ (fun qs_1 H locs hn9 hP hD hS => ?_)
  have hP : va_P D vwCl [(o8, .inr (1, [.ref (qs_1.getD 0 0), .int 0, .int ml, .int (nI 17)])), (b8, .inl (cy 1, 16, .inl bx)), (qs_1.getD 0 0, .inl (cy 1, 34, .inl (upd (va_cpy bx (fun _ => 0) 0 0 16) 16 xq)))] H := hP
  have hD : va_D A [(o8, .inr (1, [.ref (qs_1.getD 0 0), .int 0, .int ml, .int (nI 17)])), (b8, .inl (cy 1, 16, .inl bx)), (qs_1.getD 0 0, .inl (cy 1, 34, .inl (upd (va_cpy bx (fun _ => 0) 0 0 16) 16 xq)))] := hD
  refine lv_pop hx hb dJ4_append_cf468_5 rfl ?_
  refine lv_aload_n hx hb dJ4_append_cf468_6 rfl (lv_at hl 0 rfl) ?_
  exact znaret [qs_1.getD 0 0] rfl hend hx hb hr (Or.inl ⟨_, rfl⟩) hlk hK hP hD hS dJ4_append_cf468_7 rfl rfl

abbrev rmJ8_newLength_cabcc_g34 : Room := { frames := 1, cells := 0, slots := 0, locals := 21 }
set_option maxHeartbeats 4000000 in
set_option maxRecDepth 100000 in
theorem c_J8_newLength_cabcc_g34 {G : zG} (hg : zGN G) (l : Launch) (D : va_G) (cy : Nat → ClassId) : zM G D vwCl (zT cy) l yJ8_newLength_cabcc wsJ8_newLength_cabcc rmJ8_newLength_cabcc_g34 [.int 34, .int 1, .int 36] [] (some (.int 70)) [] := by
  refine zM_of (cc := cJ8_newLength_cabcc) (maxL := 4) (ret := (some .int)) (by decide) rfl (Nat.le_of_ble_eq_true rfl) ?_
  intro p e s m below meth c A Q hend hx hb hml hr hts hown hlk hG hK hP hD hA hS ls hl
  have hown : s.vm.findClass RJ8 = some m.cls := hown
  have hl : lv_has ls 4 [(0, .int 34), (1, .int 1), (2, .int 36)] := hl
  refine lv_iload_n hx hb dJ8_newLength_cabcc_0 rfl (lv_at hl 0 rfl) ?_
  refine lv_iload_n hx hb dJ8_newLength_cabcc_1 rfl (lv_at hl 1 rfl) ?_
  refine lv_iload_n hx hb dJ8_newLength_cabcc_2 rfl (lv_at hl 2 rfl) ?_
  refine va_mmax hx hb (hml.trans hl.1.symm) hown (hts _ (List.mem_of_getElem? (i := 1) rfl)) (hts _ (List.mem_of_getElem? (i := 2) rfl)) (hts _ (List.mem_of_getElem? (i := 3) rfl)) (hts _ (List.mem_of_getElem? (i := 4) rfl)) (Nat.le_of_ble_eq_true rfl) (Nat.le_of_ble_eq_true rfl) (Nat.zero_le _) (Nat.zero_le _) dJ8_newLength_cabcc_3 ?_
  refine z_top (y := 36) (by decide) ?_
  refine lv_iadd hx hb dJ8_newLength_cabcc_6 ?_
  refine z_top (y := 70) (by decide) ?_
  refine lv_istore_n (lv' := [(3, .int 70), (0, .int 34), (1, .int 1), (2, .int 36)]) hx hb dJ8_newLength_cabcc_7 rfl hl (by decide) rfl (fun ls hl => ?_)
  refine lv_iconst (v := 0) hx hb dJ8_newLength_cabcc_8 (by decide) ?_
  refine lv_iload_n hx hb dJ8_newLength_cabcc_9 rfl (lv_at hl 0 rfl) ?_
  refine lv_icmp_ge (tgt := 21) hx hb dJ8_newLength_cabcc_10 (by decide) (fun c_1 => ?_) (fun c_1 => ?_)
  · exact absurd c_1 (by decide)
  · refine lv_iload_n hx hb dJ8_newLength_cabcc_13 rfl (lv_at hl 0 rfl) ?_
    refine lv_ldc hx hb hown (hts _ (List.mem_of_getElem? (i := 5) rfl)) dJ8_newLength_cabcc_14 ?_
    refine lv_icmp_gt (tgt := 21) hx hb dJ8_newLength_cabcc_16 (by decide) (fun c_2 => ?_) (fun c_2 => ?_)
    · exact absurd c_2 (by decide)
    · refine lv_iload_n hx hb dJ8_newLength_cabcc_19 rfl (lv_at hl 0 rfl) ?_
      exact ziret hend hx hb hr hlk hK hP hD hS dJ8_newLength_cabcc_20 rfl rfl

abbrev rmJ5_newCapacity_0f7a4_g34 : Room := { frames := 2, cells := 0, slots := 0, locals := 44 }
set_option maxHeartbeats 4000000 in
set_option maxRecDepth 100000 in
theorem c_J5_newCapacity_0f7a4_g34 {G : zG} (hg : zGN G) (l : Launch) (D : va_G) (cy : Nat → ClassId) (o8 : Nat) (b8 : Nat) (ml : Int32) (nn : Nat) (bx : Nat → Int32) : zM G D vwCl (zT cy) l yJ5_newCapacity_0f7a4 wsJ5_newCapacity_0f7a4 rmJ5_newCapacity_0f7a4_g34 [.ref o8, .int 35] [(o8, .inr (1, [.ref b8, .int 0, .int ml, .int (nI nn)])), (b8, .inl (cy 1, 34, .inl bx))] (some (.int 70)) [(o8, .inr (1, [.ref b8, .int 0, .int ml, .int (nI nn)])), (b8, .inl (cy 1, 34, .inl bx))] := by
  refine zM_of (cc := cJ5_newCapacity_0f7a4) (maxL := 6) (ret := (some .int)) (by decide) rfl (Nat.le_of_ble_eq_true rfl) ?_
  intro p e s m below meth c A Q hend hx hb hml hr hts hown hlk hG hK hP hD hA hS ls hl
  have hown : s.vm.findClass RJ5 = some m.cls := hown
  have in_RJ4 : ∀ w ∈ u_ws RJ4 TJ4 4, w ∈ wsJ5_newCapacity_0f7a4 := by decide +kernel
  have hl : lv_has ls 6 [(0, .ref o8), (1, .int 35)] := hl
  refine lv_aload_n hx hb dJ5_newCapacity_0f7a4_0 rfl (lv_at hl 0 rfl) ?_
  refine va_get (D := D) (ci := 1) (v := .ref b8) (C := RJ4) (T := TJ4) (N := 4) hx hb hts in_RJ4 hown hK hP 0 rfl rfl 0 (by decide) (hts _ (List.mem_of_getElem? (i := 1) rfl)) (fun _ h9 => h9) rfl dJ5_newCapacity_0f7a4_1 ?_
  refine va_alen (v := 34) hx hb hK hP 1 1 rfl rfl rfl dJ5_newCapacity_0f7a4_4 ?_
  refine lv_istore_n (lv' := [(2, .int 34), (0, .ref o8), (1, .int 35)]) hx hb dJ5_newCapacity_0f7a4_5 rfl hl (by decide) rfl (fun ls hl => ?_)
  refine lv_iload_n hx hb dJ5_newCapacity_0f7a4_6 rfl (lv_at hl 2 rfl) ?_
  refine lv_aload_n hx hb dJ5_newCapacity_0f7a4_7 rfl (lv_at hl 1 rfl) ?_
  refine va_get (D := D) (ci := 1) (v := .int 0) (C := RJ4) (T := TJ4) (N := 4) hx hb hts in_RJ4 hown hK hP 0 rfl rfl 1 (by decide) (hts _ (List.mem_of_getElem? (i := 2) rfl)) (fun _ h9 => h9) rfl dJ5_newCapacity_0f7a4_8 ?_
  refine lv_ishl hx hb dJ5_newCapacity_0f7a4_11 ?_
  refine z_top (y := 35) (by decide) ?_
  refine lv_istore_n (lv' := [(3, .int 35), (2, .int 34), (0, .ref o8), (1, .int 35)]) hx hb dJ5_newCapacity_0f7a4_12 rfl hl (by decide) rfl (fun ls hl => ?_)
  refine lv_iload_n hx hb dJ5_newCapacity_0f7a4_13 rfl (lv_at hl 0 rfl) ?_
  refine lv_iload_n hx hb dJ5_newCapacity_0f7a4_14 rfl (lv_at hl 1 rfl) ?_
  refine lv_isub hx hb dJ5_newCapacity_0f7a4_15 ?_
  refine z_top (y := 1) (by decide) ?_
  refine lv_istore (lv' := [(4, .int 1), (3, .int 35), (2, .int 34), (0, .ref o8), (1, .int 35)]) hx hb dJ5_newCapacity_0f7a4_16 hl (by decide) rfl (fun ls hl => ?_)
  refine lv_iload_n hx hb dJ5_newCapacity_0f7a4_18 rfl (lv_at hl 2 rfl) ?_
  refine lv_iload hx hb dJ5_newCapacity_0f7a4_19 (lv_at hl 0 rfl) ?_
  refine lv_iload_n hx hb dJ5_newCapacity_0f7a4_21 rfl (lv_at hl 2 rfl) ?_
  refine lv_iconst (v := 2) hx hb dJ5_newCapacity_0f7a4_22 (by decide) ?_
  refine lv_aload_n hx hb dJ5_newCapacity_0f7a4_23 rfl (lv_at hl 3 rfl) ?_
  refine va_get (D := D) (ci := 1) (v := .int 0) (C := RJ4) (T := TJ4) (N := 4) hx hb hts in_RJ4 hown hK hP 0 rfl rfl 1 (by decide) (hts _ (List.mem_of_getElem? (i := 2) rfl)) (fun _ h9 => h9) rfl dJ5_newCapacity_0f7a4_24 ?_
  refine lv_ishl hx hb dJ5_newCapacity_0f7a4_27 ?_
  refine z_top (y := 2) (by decide) ?_
  refine lv_iadd hx hb dJ5_newCapacity_0f7a4_28 ?_
  refine z_top (y := 36) (by decide) ?_
  refine zcS (As := [.int 34, .int 1, .int 36]) (rest := []) [] hg.1 ⟨hx, hb, hml, hown, hts⟩ (c_J8_newLength_cabcc_g34 hg l D cy) (va_cwS 3 hts gJ5_newCapacity_0f7a4_J8_newLength_cabcc rfl rfl rfl (by decide +kernel) ⟨Nat.le_of_ble_eq_true rfl, Nat.le_of_ble_eq_true rfl⟩) hG hK hP hD hS hA rfl rfl rfl  rfl hl.1 rfl (Nat.le_of_ble_eq_true rfl) dJ5_newCapacity_0f7a4_29 ⟨Nat.zero_le _, Nat.zero_le _⟩ (fun H locs hP hD hS => ?_)
  have hP : va_P D vwCl [(o8, .inr (1, [.ref b8, .int 0, .int ml, .int (nI nn)])), (b8, .inl (cy 1, 34, .inl bx))] H := hP
  have hD : va_D A [(o8, .inr (1, [.ref b8, .int 0, .int ml, .int (nI nn)])), (b8, .inl (cy 1, 34, .inl bx))] := hD
  refine lv_istore (lv' := [(5, .int 70), (4, .int 1), (3, .int 35), (2, .int 34), (0, .ref o8), (1, .int 35)]) hx hb dJ5_newCapacity_0f7a4_32 hl (by decide) rfl (fun ls hl => ?_)
  refine lv_iload hx hb dJ5_newCapacity_0f7a4_34 (lv_at hl 0 rfl) ?_
  refine lv_ldc hx hb hown (hts _ (List.mem_of_getElem? (i := 3) rfl)) dJ5_newCapacity_0f7a4_36 ?_
  refine lv_icmp_ne (tgt := 51) hx hb dJ5_newCapacity_0f7a4_38 (by decide) (fun c_1 => ?_) (fun c_1 => ?_)
  · refine lv_iload hx hb dJ5_newCapacity_0f7a4_51 (lv_at hl 0 rfl) ?_
    refine lv_aload_n hx hb dJ5_newCapacity_0f7a4_53 rfl (lv_at hl 4 rfl) ?_
    refine va_get (D := D) (ci := 1) (v := .int 0) (C := RJ4) (T := TJ4) (N := 4) hx hb hts in_RJ4 hown hK hP 0 rfl rfl 1 (by decide) (hts _ (List.mem_of_getElem? (i := 2) rfl)) (fun _ h9 => h9) rfl dJ5_newCapacity_0f7a4_54 ?_
    refine lv_ishr hx hb dJ5_newCapacity_0f7a4_57 ?_
    refine z_top (y := 70) (by decide) ?_
    exact ziret hend hx hb hr hlk hK hP hD hS dJ5_newCapacity_0f7a4_58 rfl rfl
  · exact absurd c_1 (by decide)

abbrev rmJ7_copyOf_9075b_g34 : Room := { frames := 1, cells := 1, slots := 70, locals := 60 }
set_option maxHeartbeats 4000000 in
set_option maxRecDepth 100000 in
theorem c_J7_copyOf_9075b_g34 {G : zG} (hg : zGN G) (l : Launch) (D : va_G) (cy : Nat → ClassId) (b8 : Nat) (bx : Nat → Int32) (hfb : ∀ i, i < 34 → fits .byte (.int (bx i)) = true) : zMN G D vwCl (zT cy) l yJ7_copyOf_9075b wsJ7_copyOf_9075b rmJ7_copyOf_9075b_g34 [.ref b8, .int 70] [(b8, .inl (cy 1, 34, .inl bx))] (fun qs => (some (.ref (qs.getD 0 0)))) 1 (fun qs => [(b8, .inl (cy 1, 34, .inl bx))]) (fun qs => [(qs.getD 0 0, .inl (cy 1, 70, .inl (va_cpy bx (fun _ => 0) 0 0 34)))]) 1 70 := by
  refine zMN_of (cc := cJ7_copyOf_9075b) (maxL := 3) (ret := (some (.array .byte))) (by decide) rfl (Nat.le_of_ble_eq_true rfl) ?_
  intro p e s m below meth c A Q hend hx hb hml hr hts hown hlk hG hK hP hD hA hS ls hl
  have hown : s.vm.findClass RJ7 = some m.cls := hown
  have hl : lv_has ls 3 [(0, .ref b8), (1, .int 70)] := hl
  refine lv_iload_n hx hb dJ7_copyOf_9075b_0 rfl (lv_at hl 1 rfl) ?_
  refine lv_aload_n hx hb dJ7_copyOf_9075b_1 rfl (lv_at hl 0 rfl) ?_
  refine va_alen (v := 34) hx hb hK hP 0 1 rfl rfl rfl dJ7_copyOf_9075b_2 ?_
  refine lv_icmp_ne (tgt := 14) hx hb dJ7_copyOf_9075b_3 (by decide) (fun c_1 => ?_) (fun c_1 => ?_)
  · refine lv_iload_n hx hb dJ7_copyOf_9075b_14 rfl (lv_at hl 1 rfl) ?_
    refine znewa (atype := .byte) (ty := .byte) (a0 := (70, .inl (fun _ => 0))) (t0 := 1) hx hb (hts _ (List.mem_of_getElem? (i := 7) rfl)) rfl rfl (fun _ z => by cases z) hK hP hD hS hA (fun _ => rfl) (by decide) (by decide) (Nat.le_of_ble_eq_true rfl) (Nat.le_of_ble_eq_true rfl) (Nat.le_of_ble_eq_true rfl) dJ7_copyOf_9075b_15 (fun q_2 H hP hD hS => ?_)
    have hP : va_P D vwCl [(b8, .inl (cy 1, 34, .inl bx)), (q_2, .inl (cy 1, 70, .inl (fun _ => 0)))] H := hP
    have hD : va_D A [(b8, .inl (cy 1, 34, .inl bx)), (q_2, .inl (cy 1, 70, .inl (fun _ => 0)))] := hD
    refine lv_astore_n (lv' := [(2, .ref q_2), (0, .ref b8), (1, .int 70)]) hx hb dJ7_copyOf_9075b_17 rfl hl (by decide) rfl (fun ls hl => ?_)
    refine lv_aload_n hx hb dJ7_copyOf_9075b_18 rfl (lv_at hl 1 rfl) ?_
    refine lv_iconst (v := 0) hx hb dJ7_copyOf_9075b_19 (by decide) ?_
    refine lv_aload_n hx hb dJ7_copyOf_9075b_20 rfl (lv_at hl 0 rfl) ?_
    refine lv_iconst (v := 0) hx hb dJ7_copyOf_9075b_21 (by decide) ?_
    refine lv_aload_n hx hb dJ7_copyOf_9075b_22 rfl (lv_at hl 1 rfl) ?_
    refine va_alen (v := 34) hx hb hK hP 0 1 rfl rfl rfl dJ7_copyOf_9075b_23 ?_
    refine lv_iload_n hx hb dJ7_copyOf_9075b_24 rfl (lv_at hl 2 rfl) ?_
    refine va_mmin hx hb (hml.trans hl.1.symm) hown (hts _ (List.mem_of_getElem? (i := 8) rfl)) (hts _ (List.mem_of_getElem? (i := 9) rfl)) (hts _ (List.mem_of_getElem? (i := 10) rfl)) (hts _ (List.mem_of_getElem? (i := 11) rfl)) (Nat.le_of_ble_eq_true rfl) (Nat.le_of_ble_eq_true rfl) (Nat.le_of_ble_eq_true rfl) (Nat.le_of_ble_eq_true rfl) dJ7_copyOf_9075b_25 ?_
    refine z_top (y := 34) (by decide) ?_
    refine zcopyB 0 1 hx hb (hml.trans hl.1.symm) hown (hts _ (List.mem_of_getElem? (i := 12) rfl)) (hts _ (List.mem_of_getElem? (i := 13) rfl)) (hts _ (List.mem_of_getElem? (i := 14) rfl)) (hts _ (List.mem_of_getElem? (i := 15) rfl)) hK hP hD hS rfl rfl rfl (by decide) (by decide) (by decide) hfb (Nat.le_of_ble_eq_true rfl) (Nat.le_of_ble_eq_true rfl) dJ7_copyOf_9075b_28 (fun H locs hP hD hS => ?_)
    have hP : va_P D vwCl [(b8, .inl (cy 1, 34, .inl bx)), (q_2, .inl (cy 1, 70, .inl (va_cpy bx (fun _ => 0) 0 0 34)))] H := hP
    have hD : va_D A [(b8, .inl (cy 1, 34, .inl bx)), (q_2, .inl (cy 1, 70, .inl (va_cpy bx (fun _ => 0) 0 0 34)))] := hD
    refine lv_aload_n hx hb dJ7_copyOf_9075b_31 rfl (lv_at hl 0 rfl) ?_
    exact znaret [q_2] rfl hend hx hb hr (Or.inr ⟨_, rfl⟩) hlk hK hP hD hS dJ7_copyOf_9075b_32 rfl rfl
  · exact absurd c_1 (by decide)

abbrev rmJ5_ensureCapacityInternal_d00df_g34 : Room := { frames := 3, cells := 1, slots := 70, locals := 82 }
set_option maxHeartbeats 4000000 in
set_option maxRecDepth 100000 in
theorem c_J5_ensureCapacityInternal_d00df_g34 {G : zG} (hg : zGJ G) (l : Launch) (D : va_G) (cy : Nat → ClassId) (o8 : Nat) (b8 : Nat) (ml : Int32) (nn : Nat) (bx : Nat → Int32) (hfb : ∀ i, i < 34 → fits .byte (.int (bx i)) = true) : zMN G D vwCl (zT cy) l yJ5_ensureCapacityInternal_d00df wsJ5_ensureCapacityInternal_d00df rmJ5_ensureCapacityInternal_d00df_g34 [.ref o8, .int 35] [(o8, .inr (1, [.ref b8, .int 0, .int ml, .int (nI nn)])), (b8, .inl (cy 1, 34, .inl bx))] (fun qs => none) 1 (fun qs => [(o8, .inr (1, [.ref (qs.getD 0 0), .int 0, .int ml, .int (nI nn)])), (b8, .inl (cy 1, 34, .inl bx))]) (fun qs => [(qs.getD 0 0, .inl (cy 1, 70, .inl (va_cpy bx (fun _ => 0) 0 0 34)))]) 1 70 := by
  refine zMN_of (cc := cJ5_ensureCapacityInternal_d00df) (maxL := 3) (ret := none) (by decide) rfl (Nat.le_of_ble_eq_true rfl) ?_
  intro p e s m below meth c A Q hend hx hb hml hr hts hown hlk hG hK hP hD hA hS ls hl
  have hown : s.vm.findClass RJ5 = some m.cls := hown
  have in_RJ4 : ∀ w ∈ u_ws RJ4 TJ4 4, w ∈ wsJ5_ensureCapacityInternal_d00df := by decide +kernel
  have hl : lv_has ls 3 [(0, .ref o8), (1, .int 35)] := hl
  refine lv_aload_n hx hb dJ5_ensureCapacityInternal_d00df_0 rfl (lv_at hl 0 rfl) ?_
  refine va_get (D := D) (ci := 1) (v := .ref b8) (C := RJ4) (T := TJ4) (N := 4) hx hb hts in_RJ4 hown hK hP 0 rfl rfl 0 (by decide) (hts _ (List.mem_of_getElem? (i := 1) rfl)) (fun _ h9 => h9) rfl dJ5_ensureCapacityInternal_d00df_1 ?_
  refine va_alen (v := 34) hx hb hK hP 1 1 rfl rfl rfl dJ5_ensureCapacityInternal_d00df_4 ?_
  refine lv_aload_n hx hb dJ5_ensureCapacityInternal_d00df_5 rfl (lv_at hl 0 rfl) ?_
  refine va_get (D := D) (ci := 1) (v := .int 0) (C := RJ4) (T := TJ4) (N := 4) hx hb hts in_RJ4 hown hK hP 0 rfl rfl 1 (by decide) (hts _ (List.mem_of_getElem? (i := 2) rfl)) (fun _ h9 => h9) rfl dJ5_ensureCapacityInternal_d00df_6 ?_
  refine lv_ishr hx hb dJ5_ensureCapacityInternal_d00df_9 ?_
  refine z_top (y := 34) (by decide) ?_
  refine lv_istore_n (lv' := [(2, .int 34), (0, .ref o8), (1, .int 35)]) hx hb dJ5_ensureCapacityInternal_d00df_10 rfl hl (by decide) rfl (fun ls hl => ?_)
  refine lv_iload_n hx hb dJ5_ensureCapacityInternal_d00df_11 rfl (lv_at hl 2 rfl) ?_
  refine lv_iload_n hx hb dJ5_ensureCapacityInternal_d00df_12 rfl (lv_at hl 0 rfl) ?_
  refine lv_isub hx hb dJ5_ensureCapacityInternal_d00df_13 ?_
  refine z_top (y := 1) (by decide) ?_
  refine lv_if_le (tgt := 38) hx hb dJ5_ensureCapacityInternal_d00df_14 (by decide) (fun c_1 => ?_) (fun c_1 => ?_)
  · exact absurd c_1 (by decide)
  · refine lv_aload_n hx hb dJ5_ensureCapacityInternal_d00df_17 rfl (lv_at hl 1 rfl) ?_
    refine lv_aload_n hx hb dJ5_ensureCapacityInternal_d00df_18 rfl (lv_at hl 1 rfl) ?_
    refine va_get (D := D) (ci := 1) (v := .ref b8) (C := RJ4) (T := TJ4) (N := 4) hx hb hts in_RJ4 hown hK hP 0 rfl rfl 0 (by decide) (hts _ (List.mem_of_getElem? (i := 1) rfl)) (fun _ h9 => h9) rfl dJ5_ensureCapacityInternal_d00df_19 ?_
    refine lv_aload_n hx hb dJ5_ensureCapacityInternal_d00df_22 rfl (lv_at hl 1 rfl) ?_
    refine lv_iload_n hx hb dJ5_ensureCapacityInternal_d00df_23 rfl (lv_at hl 2 rfl) ?_
    refine zcU (As := [.int 35]) (rest := [.ref b8, .ref o8]) [0, 1] 0 hg.1.1 ⟨hx, hb, hml, hown, hts⟩ (c_J5_newCapacity_0f7a4_g34 hg.1 l D cy o8 b8 ml nn bx) (va_cwU 1 hts gJ5_ensureCapacityInternal_d00df_J5_newCapacity_0f7a4_u104J4 rfl rfl rfl rfl (by decide +kernel) ⟨Nat.le_of_ble_eq_true rfl, Nat.le_of_ble_eq_true rfl⟩) hG hK hP hD hS hA rfl rfl rfl rfl rfl rfl hl.1 rfl (Nat.le_of_ble_eq_true rfl) dJ5_ensureCapacityInternal_d00df_24 ⟨Nat.le_of_ble_eq_true rfl, Nat.le_of_ble_eq_true rfl⟩ (fun H locs hP hD hS => ?_)
    have hP : va_P D vwCl [(o8, .inr (1, [.ref b8, .int 0, .int ml, .int (nI nn)])), (b8, .inl (cy 1, 34, .inl bx))] H := hP
    have hD : va_D A [(o8, .inr (1, [.ref b8, .int 0, .int ml, .int (nI nn)])), (b8, .inl (cy 1, 34, .inl bx))] := hD
    refine lv_aload_n hx hb dJ5_ensureCapacityInternal_d00df_27 rfl (lv_at hl 1 rfl) ?_
    refine va_get (D := D) (ci := 1) (v := .int 0) (C := RJ4) (T := TJ4) (N := 4) hx hb hts in_RJ4 hown hK hP 0 rfl rfl 1 (by decide) (hts _ (List.mem_of_getElem? (i := 2) rfl)) (fun _ h9 => h9) rfl dJ5_ensureCapacityInternal_d00df_28 ?_
    refine lv_ishl hx hb dJ5_ensureCapacityInternal_d00df_31 ?_
    refine z_top (y := 70) (by decide) ?_
    refine zcnS (As := [.ref b8, .int 70]) (rest := [.ref o8]) [1] hg.1.1 ⟨hx, hb, hml, hown, hts⟩ (c_J7_copyOf_9075b_g34 hg.1 l D cy b8 bx (by first | assumption | omega)) (va_cwS 2 hts gJ5_ensureCapacityInternal_d00df_J7_copyOf_9075b rfl rfl rfl (by decide +kernel) ⟨Nat.le_of_ble_eq_true rfl, Nat.le_of_ble_eq_true rfl⟩) hG hK hP hD hS hA rfl rfl (fun _ _ => rfl)  rfl hl.1 rfl (Nat.le_of_ble_eq_true rfl) dJ5_ensureCapacityInternal_d00df_32 ⟨Nat.le_of_ble_eq_true rfl, Nat.le_of_ble_eq_true rfl⟩ (fun qs_2 H locs hn9 hP hD hS => ?_)
    have hP : va_P D vwCl [(o8, .inr (1, [.ref b8, .int 0, .int ml, .int (nI nn)])), (b8, .inl (cy 1, 34, .inl bx)), (qs_2.getD 0 0, .inl (cy 1, 70, .inl (va_cpy bx (fun _ => 0) 0 0 34)))] H := hP
    have hD : va_D A [(o8, .inr (1, [.ref b8, .int 0, .int ml, .int (nI nn)])), (b8, .inl (cy 1, 34, .inl bx)), (qs_2.getD 0 0, .inl (cy 1, 70, .inl (va_cpy bx (fun _ => 0) 0 0 34)))] := hD
    refine va_put (D := D) (ci := 1) (v := .ref (qs_2.getD 0 0)) (ty := .array .byte) (C := RJ4) (T := TJ4) (N := 4) hx hb hts in_RJ4 tyJ4 tyJ4_ok nmJ4 hown hK hP hD hS 0 rfl rfl 0 (by decide) (hts _ (List.mem_of_getElem? (i := 1) rfl)) (fun _ h9 => h9) rfl (by decide +kernel) rfl rfl (Nat.le_of_ble_eq_true rfl) dJ5_ensureCapacityInternal_d00df_35 (fun H locs hP hD hS => ?_)
    have hP : va_P D vwCl [(o8, .inr (1, [.ref (qs_2.getD 0 0), .int 0, .int ml, .int (nI nn)])), (b8, .inl (cy 1, 34, .inl bx)), (qs_2.getD 0 0, .inl (cy 1, 70, .inl (va_cpy bx (fun _ => 0) 0 0 34)))] H := hP
    have hD : va_D A [(o8, .inr (1, [.ref (qs_2.getD 0 0), .int 0, .int ml, .int (nI nn)])), (b8, .inl (cy 1, 34, .inl bx)), (qs_2.getD 0 0, .inl (cy 1, 70, .inl (va_cpy bx (fun _ => 0) 0 0 34)))] := hD
    exact znvret [qs_2.getD 0 0] rfl hend hx hb hr hlk hK hP hD hS dJ5_ensureCapacityInternal_d00df_38 rfl rfl

abbrev rmJ5_append_3fe6f_g34 : Room := { frames := 4, cells := 1, slots := 70, locals := 104 }
set_option maxHeartbeats 4000000 in
set_option maxRecDepth 100000 in
theorem c_J5_append_3fe6f_g34 {G : zG} (hg : zGJ G) (l : Launch) (D : va_G) (cy : Nat → ClassId) (o8 : Nat) (b8 : Nat) (ml : Int32) (bx : Nat → Int32) (xq : Int32) (hfb : ∀ i, i < 34 → fits .byte (.int (bx i)) = true) (hxq : xq ≤ 255) (hby : vp_nar .byte xq.toInt8.toInt32 = xq) : zMN G D vwCl (zT cy) l yJ5_append_3fe6f wsJ5_append_3fe6f rmJ5_append_3fe6f_g34 [.ref o8, .int xq] [(o8, .inr (1, [.ref b8, .int 0, .int ml, .int (nI 34)])), (b8, .inl (cy 1, 34, .inl bx))] (fun qs => (some (.ref o8))) 1 (fun qs => [(o8, .inr (1, [.ref (qs.getD 0 0), .int 0, .int ml, .int (nI 35)])), (b8, .inl (cy 1, 34, .inl bx))]) (fun qs => [(qs.getD 0 0, .inl (cy 1, 70, .inl (upd (va_cpy bx (fun _ => 0) 0 0 34) 34 xq)))]) 1 70 := by
  refine zMN_of (cc := cJ5_append_3fe6f) (maxL := 2) (ret := (some (.object "java/lang/AbstractStringBuilder"))) (by decide) rfl (Nat.le_of_ble_eq_true rfl) ?_
  intro p e s m below meth c A Q hend hx hb hml hr hts hown hlk hG hK hP hD hA hS ls hl
  have hown : s.vm.findClass RJ5 = some m.cls := hown
  have in_RJ4 : ∀ w ∈ u_ws RJ4 TJ4 4, w ∈ wsJ5_append_3fe6f := by decide +kernel
  have hl : lv_has ls 2 [(0, .ref o8), (1, .int xq)] := hl
  refine lv_aload_n hx hb dJ5_append_3fe6f_0 rfl (lv_at hl 0 rfl) ?_
  refine lv_aload_n hx hb dJ5_append_3fe6f_1 rfl (lv_at hl 0 rfl) ?_
  refine va_get (D := D) (ci := 1) (v := .int (nI 34)) (C := RJ4) (T := TJ4) (N := 4) hx hb hts in_RJ4 hown hK hP 0 rfl rfl 3 (by decide) (hts _ (List.mem_of_getElem? (i := 1) rfl)) (fun _ h9 => h9) rfl dJ5_append_3fe6f_2 ?_
  refine lv_iconst (v := 1) hx hb dJ5_append_3fe6f_5 (by decide) ?_
  refine lv_iadd hx hb dJ5_append_3fe6f_6 ?_
  refine z_top (y := 35) (by decide) ?_
  refine zcnU (As := [.int 35]) (rest := []) [0, 1] 0 hg.1.1 ⟨hx, hb, hml, hown, hts⟩ (c_J5_ensureCapacityInternal_d00df_g34 hg l D cy o8 b8 ml 34 bx (by first | assumption | omega)) (va_cwU 1 hts gJ5_append_3fe6f_J5_ensureCapacityInternal_d00df_u100J4 rfl rfl rfl rfl (by decide +kernel) ⟨Nat.le_of_ble_eq_true rfl, Nat.le_of_ble_eq_true rfl⟩) hG hK hP hD hS hA rfl rfl (fun _ _ => rfl) rfl rfl rfl hl.1 rfl (Nat.le_of_ble_eq_true rfl) dJ5_append_3fe6f_7 ⟨Nat.le_of_ble_eq_true rfl, Nat.le_of_ble_eq_true rfl⟩ (fun qs_1 H locs hn9 hP hD hS => ?_)
  have hP : va_P D vwCl [(o8, .inr (1, [.ref (qs_1.getD 0 0), .int 0, .int ml, .int (nI 34)])), (b8, .inl (cy 1, 34, .inl bx)), (qs_1.getD 0 0, .inl (cy 1, 70, .inl (va_cpy bx (fun _ => 0) 0 0 34)))] H := hP
  have hD : va_D A [(o8, .inr (1, [.ref (qs_1.getD 0 0), .int 0, .int ml, .int (nI 34)])), (b8, .inl (cy 1, 34, .inl bx)), (qs_1.getD 0 0, .inl (cy 1, 70, .inl (va_cpy bx (fun _ => 0) 0 0 34)))] := hD
  refine lv_aload_n hx hb dJ5_append_3fe6f_10 rfl (lv_at hl 0 rfl) ?_
  refine zcU (As := []) (rest := []) [0] 0 hg.1.1 ⟨hx, hb, hml, hown, hts⟩ (c_J5_isLatin1_aae02 hg l D cy o8 (qs_1.getD 0 0) ml 34) (va_cwU 0 hts gJ5_append_3fe6f_J5_isLatin1_aae02_u83J4 rfl rfl rfl rfl (by decide +kernel) ⟨Nat.le_of_ble_eq_true rfl, Nat.le_of_ble_eq_true rfl⟩) hG hK hP hD hS hA rfl rfl rfl rfl rfl rfl hl.1 rfl (Nat.le_of_ble_eq_true rfl) dJ5_append_3fe6f_11 ⟨Nat.le_of_ble_eq_true rfl, Nat.le_of_ble_eq_true rfl⟩ (fun H locs hP hD hS => ?_)
  have hP : va_P D vwCl [(o8, .inr (1, [.ref (qs_1.getD 0 0), .int 0, .int ml, .int (nI 34)])), (b8, .inl (cy 1, 34, .inl bx)), (qs_1.getD 0 0, .inl (cy 1, 70, .inl (va_cpy bx (fun _ => 0) 0 0 34)))] H := hP
  have hD : va_D A [(o8, .inr (1, [.ref (qs_1.getD 0 0), .int 0, .int ml, .int (nI 34)])), (b8, .inl (cy 1, 34, .inl bx)), (qs_1.getD 0 0, .inl (cy 1, 70, .inl (va_cpy bx (fun _ => 0) 0 0 34)))] := hD
  refine lv_if_eq (tgt := 45) hx hb dJ5_append_3fe6f_14 (by decide) (fun c_2 => ?_) (fun c_2 => ?_)
  · exact absurd c_2 (by decide)
  · refine lv_iload_n hx hb dJ5_append_3fe6f_17 rfl (lv_at hl 1 rfl) ?_
    refine zcS (As := [.int xq]) (rest := []) [] hg.1.1 ⟨hx, hb, hml, hown, hts⟩ (c_J1_canEncode_fc78d hg.1 l D cy xq (by first | assumption | omega)) (va_cwS 1 hts gJ5_append_3fe6f_J1_canEncode_fc78d rfl rfl rfl (by decide +kernel) ⟨Nat.le_of_ble_eq_true rfl, Nat.le_of_ble_eq_true rfl⟩) hG hK hP hD hS hA rfl rfl rfl  rfl hl.1 rfl (Nat.le_of_ble_eq_true rfl) dJ5_append_3fe6f_18 ⟨Nat.le_of_ble_eq_true rfl, Nat.le_of_ble_eq_true rfl⟩ (fun H locs hP hD hS => ?_)
    have hP : va_P D vwCl [(o8, .inr (1, [.ref (qs_1.getD 0 0), .int 0, .int ml, .int (nI 34)])), (b8, .inl (cy 1, 34, .inl bx)), (qs_1.getD 0 0, .inl (cy 1, 70, .inl (va_cpy bx (fun _ => 0) 0 0 34)))] H := hP
    have hD : va_D A [(o8, .inr (1, [.ref (qs_1.getD 0 0), .int 0, .int ml, .int (nI 34)])), (b8, .inl (cy 1, 34, .inl bx)), (qs_1.getD 0 0, .inl (cy 1, 70, .inl (va_cpy bx (fun _ => 0) 0 0 34)))] := hD
    refine lv_if_eq (tgt := 45) hx hb dJ5_append_3fe6f_21 (by decide) (fun c_3 => ?_) (fun c_3 => ?_)
    · exact absurd c_3 (by decide)
    · refine lv_aload_n hx hb dJ5_append_3fe6f_24 rfl (lv_at hl 0 rfl) ?_
      refine va_get (D := D) (ci := 1) (v := .ref (qs_1.getD 0 0)) (C := RJ4) (T := TJ4) (N := 4) hx hb hts in_RJ4 hown hK hP 0 rfl rfl 0 (by decide) (hts _ (List.mem_of_getElem? (i := 2) rfl)) (fun _ h9 => h9) rfl dJ5_append_3fe6f_25 ?_
      refine lv_aload_n hx hb dJ5_append_3fe6f_28 rfl (lv_at hl 0 rfl) ?_
      refine lv_dup hx hb dJ5_append_3fe6f_29 rfl ?_
      refine va_get (D := D) (ci := 1) (v := .int (nI 34)) (C := RJ4) (T := TJ4) (N := 4) hx hb hts in_RJ4 hown hK hP 0 rfl rfl 3 (by decide) (hts _ (List.mem_of_getElem? (i := 1) rfl)) (fun _ h9 => h9) rfl dJ5_append_3fe6f_30 ?_
      refine lv_dup_x1 hx hb dJ5_append_3fe6f_33 rfl rfl ?_
      refine lv_iconst (v := 1) hx hb dJ5_append_3fe6f_34 (by decide) ?_
      refine lv_iadd hx hb dJ5_append_3fe6f_35 ?_
      refine z_top (y := nI 35) (by decide) ?_
      refine va_put (D := D) (ci := 1) (v := .int (nI 35)) (ty := .int) (C := RJ4) (T := TJ4) (N := 4) hx hb hts in_RJ4 tyJ4 tyJ4_ok nmJ4 hown hK hP hD hS 0 rfl rfl 3 (by decide) (hts _ (List.mem_of_getElem? (i := 1) rfl)) (fun _ h9 => h9) rfl (by decide +kernel) rfl rfl (Nat.le_of_ble_eq_true rfl) dJ5_append_3fe6f_36 (fun H locs hP hD hS => ?_)
      have hP : va_P D vwCl [(o8, .inr (1, [.ref (qs_1.getD 0 0), .int 0, .int ml, .int (nI 35)])), (b8, .inl (cy 1, 34, .inl bx)), (qs_1.getD 0 0, .inl (cy 1, 70, .inl (va_cpy bx (fun _ => 0) 0 0 34)))] H := hP
      have hD : va_D A [(o8, .inr (1, [.ref (qs_1.getD 0 0), .int 0, .int ml, .int (nI 35)])), (b8, .inl (cy 1, 34, .inl bx)), (qs_1.getD 0 0, .inl (cy 1, 70, .inl (va_cpy bx (fun _ => 0) 0 0 34)))] := hD
      refine lv_iload_n hx hb dJ5_append_3fe6f_39 rfl (lv_at hl 1 rfl) ?_
      refine lv_i2b hx hb dJ5_append_3fe6f_40 rfl ?_
      refine zbast (x' := xq) 2 34 hx hb hK hP hD hS rfl rfl (by omega) (by omega) hby dJ5_append_3fe6f_41 (fun H locs hP hD hS => ?_)
      have hP : va_P D vwCl [(o8, .inr (1, [.ref (qs_1.getD 0 0), .int 0, .int ml, .int (nI 35)])), (b8, .inl (cy 1, 34, .inl bx)), (qs_1.getD 0 0, .inl (cy 1, 70, .inl (upd (va_cpy bx (fun _ => 0) 0 0 34) 34 xq)))] H := hP
      have hD : va_D A [(o8, .inr (1, [.ref (qs_1.getD 0 0), .int 0, .int ml, .int (nI 35)])), (b8, .inl (cy 1, 34, .inl bx)), (qs_1.getD 0 0, .inl (cy 1, 70, .inl (upd (va_cpy bx (fun _ => 0) 0 0 34) 34 xq)))] := hD
      refine lv_goto (tgt := 75) hx hb dJ5_append_3fe6f_42 (by decide) ?_
      refine lv_aload_n hx hb dJ5_append_3fe6f_75 rfl (lv_at hl 0 rfl) ?_
      exact znaret [qs_1.getD 0 0] rfl hend hx hb hr (Or.inl ⟨_, rfl⟩) hlk hK hP hD hS dJ5_append_3fe6f_76 rfl rfl

abbrev rmJ4_append_cf468_g34 : Room := { frames := 5, cells := 1, slots := 70, locals := 125 }
set_option maxHeartbeats 4000000 in
set_option maxRecDepth 100000 in
theorem c_J4_append_cf468_g34 {G : zG} (hg : zGJ G) (l : Launch) (D : va_G) (cy : Nat → ClassId) (o8 : Nat) (b8 : Nat) (ml : Int32) (bx : Nat → Int32) (xq : Int32) (hfb : ∀ i, i < 34 → fits .byte (.int (bx i)) = true) (hxq : xq ≤ 255) (hby : vp_nar .byte xq.toInt8.toInt32 = xq) : zMN G D vwCl (zT cy) l yJ4_append_cf468 wsJ4_append_cf468 rmJ4_append_cf468_g34 [.ref o8, .int xq] [(o8, .inr (1, [.ref b8, .int 0, .int ml, .int (nI 34)])), (b8, .inl (cy 1, 34, .inl bx))] (fun qs => (some (.ref o8))) 1 (fun qs => [(o8, .inr (1, [.ref (qs.getD 0 0), .int 0, .int ml, .int (nI 35)])), (b8, .inl (cy 1, 34, .inl bx))]) (fun qs => [(qs.getD 0 0, .inl (cy 1, 70, .inl (upd (va_cpy bx (fun _ => 0) 0 0 34) 34 xq)))]) 1 70 := by
  refine zMN_of (cc := cJ4_append_cf468) (maxL := 2) (ret := (some (.object "java/lang/StringBuilder"))) (by decide) rfl (Nat.le_of_ble_eq_true rfl) ?_
  intro p e s m below meth c A Q hend hx hb hml hr hts hown hlk hG hK hP hD hA hS ls hl
  have hown : s.vm.findClass RJ4 = some m.cls := hown
  have hl : lv_has ls 2 [(0, .ref o8), (1, .int xq)] := hl
  refine lv_aload_n hx hb dJ4_append_cf468_0 rfl (lv_at hl 0 rfl) ?_
  refine lv_iload_n hx hb dJ4_append_cf468_1 rfl (lv_at hl 1 rfl) ?_
  refine zcnSU (As := [.int xq]) (rest := []) [0, 1] 0 hg.1.1 ⟨hx, hb, hml, hown, hts⟩ (c_J5_append_3fe6f_g34 hg l D cy o8 b8 ml bx xq (by first | assumption | omega) (by first | assumption | omega) (by first | assumption | omega)) (va_cwSU 1 hts gJ4_append_cf468_J5_append_3fe6f_s50 rfl rfl rfl (by decide +kernel) ⟨Nat.le_of_ble_eq_true rfl, Nat.le_of_ble_eq_true rfl⟩) hG hK hP hD hS hA rfl rfl (fun _ _ => rfl) rfl rfl rfl hl.1 rfl (Nat.le_of_ble_eq_true rfl) dJ4_append_cf468_2 ⟨Nat.le_of_ble_eq_true rfl, Nat.le_of_ble_eq_true rfl⟩ (fun qs_1 H locs hn9 hP hD hS => ?_)
  have hP : va_P D vwCl [(o8, .inr (1, [.ref (qs_1.getD 0 0), .int 0, .int ml, .int (nI 35)])), (b8, .inl (cy 1, 34, .inl bx)), (qs_1.getD 0 0, .inl (cy 1, 70, .inl (upd (va_cpy bx (fun _ => 0) 0 0 34) 34 xq)))] H := hP
  have hD : va_D A [(o8, .inr (1, [.ref (qs_1.getD 0 0), .int 0, .int ml, .int (nI 35)])), (b8, .inl (cy 1, 34, .inl bx)), (qs_1.getD 0 0, .inl (cy 1, 70, .inl (upd (va_cpy bx (fun _ => 0) 0 0 34) 34 xq)))] := hD
  refine lv_pop hx hb dJ4_append_cf468_5 rfl ?_
  refine lv_aload_n hx hb dJ4_append_cf468_6 rfl (lv_at hl 0 rfl) ?_
  exact znaret [qs_1.getD 0 0] rfl hend hx hb hr (Or.inl ⟨_, rfl⟩) hlk hK hP hD hS dJ4_append_cf468_7 rfl rfl

abbrev rmJ6_stringSize_0f7a4_d1 : Room := { frames := 0, cells := 0, slots := 0, locals := 0 }
set_option maxHeartbeats 4000000 in
set_option maxRecDepth 100000 in
theorem c_J6_stringSize_0f7a4_d1 {G : zG} (hg : zGN G) (l : Launch) (D : va_G) (cy : Nat → ClassId) (nv : Nat) (hlo : 0 ≤ nv) (hhi : nv < 10) : zM G D vwCl (zT cy) l yJ6_stringSize_0f7a4 wsJ6_stringSize_0f7a4 rmJ6_stringSize_0f7a4_d1 [.int (nI nv)] [] (some (.int 1)) [] := by
  refine zM_of (cc := cJ6_stringSize_0f7a4) (maxL := 4) (ret := (some .int)) (by decide) rfl (Nat.le_of_ble_eq_true rfl) ?_
  intro p e s m below meth c A Q hend hx hb hml hr hts hown hlk hG hK hP hD hA hS ls hl
  have hown : s.vm.findClass RJ6 = some m.cls := hown
  have hl : lv_has ls 4 [(0, .int (nI nv))] := hl
  refine lv_iconst (v := 1) hx hb dJ6_stringSize_0f7a4_0 (by decide) ?_
  refine lv_istore_n (lv' := [(1, .int 1), (0, .int (nI nv))]) hx hb dJ6_stringSize_0f7a4_1 rfl hl (by decide) rfl (fun ls hl => ?_)
  refine lv_iload_n hx hb dJ6_stringSize_0f7a4_2 rfl (lv_at hl 1 rfl) ?_
  refine lv_if_lt (tgt := 11) hx hb dJ6_stringSize_0f7a4_3 (by decide) (fun c_1 => ?_) (fun c_1 => ?_)
  · exact absurd c_1 (nI_pos (by omega))
  · refine lv_iconst (v := 0) hx hb dJ6_stringSize_0f7a4_6 (by decide) ?_
    refine lv_istore_n (lv' := [(1, .int 0), (0, .int (nI nv))]) hx hb dJ6_stringSize_0f7a4_7 rfl hl (by decide) rfl (fun ls hl => ?_)
    refine lv_iload_n hx hb dJ6_stringSize_0f7a4_8 rfl (lv_at hl 1 rfl) ?_
    refine lv_ineg hx hb dJ6_stringSize_0f7a4_9 ?_
    refine lv_istore_n (lv' := [(0, .int (-(nI nv))), (1, .int 0)]) hx hb dJ6_stringSize_0f7a4_10 rfl hl (by decide) rfl (fun ls hl => ?_)
    refine lv_bipush (v := (-10)) hx hb dJ6_stringSize_0f7a4_11 (by decide) ?_
    refine lv_istore_n (lv' := [(2, .int (-10)), (0, .int (-(nI nv))), (1, .int 0)]) hx hb dJ6_stringSize_0f7a4_13 rfl hl (by decide) rfl (fun ls hl => ?_)
    refine lv_iconst (v := 1) hx hb dJ6_stringSize_0f7a4_14 (by decide) ?_
    refine lv_istore_n (lv' := [(3, .int 1), (2, .int (-10)), (0, .int (-(nI nv))), (1, .int 0)]) hx hb dJ6_stringSize_0f7a4_15 rfl hl (by decide) rfl (fun ls hl => ?_)
    refine lv_iload_n hx hb dJ6_stringSize_0f7a4_16 rfl (lv_at hl 0 rfl) ?_
    refine lv_bipush (v := 10) hx hb dJ6_stringSize_0f7a4_17 (by decide) ?_
    refine lv_icmp_ge (tgt := 42) hx hb dJ6_stringSize_0f7a4_19 (by decide) (fun c_2 => ?_) (fun c_2 => ?_)
    · exact absurd c_2 (by decide)
    · refine lv_iload_n hx hb dJ6_stringSize_0f7a4_22 rfl (lv_at hl 2 rfl) ?_
      refine lv_iload_n hx hb dJ6_stringSize_0f7a4_23 rfl (lv_at hl 1 rfl) ?_
      refine lv_icmp_le (tgt := 31) hx hb dJ6_stringSize_0f7a4_24 (by decide) (fun c_3 => ?_) (fun c_3 => ?_)
      · exact absurd ((zneg_le (a := nv) (b := 10) (by omega) (by omega)).mp c_3) (by omega)
      · refine lv_iload_n hx hb dJ6_stringSize_0f7a4_27 rfl (lv_at hl 0 rfl) ?_
        refine lv_iload_n hx hb dJ6_stringSize_0f7a4_28 rfl (lv_at hl 3 rfl) ?_
        refine lv_iadd hx hb dJ6_stringSize_0f7a4_29 ?_
        refine z_top (y := 1) (by decide) ?_
        exact ziret hend hx hb hr hlk hK hP hD hS dJ6_stringSize_0f7a4_30 rfl rfl

abbrev rmJ6_getChars_ba4f3_d1 : Room := { frames := 0, cells := 0, slots := 0, locals := 0 }
set_option maxHeartbeats 4000000 in
set_option maxRecDepth 100000 in
theorem c_J6_getChars_ba4f3_d1 {G : zG} (hg : zGJ G) (l : Launch) (D : va_G) (cy : Nat → ClassId) (b8 : Nat) (bx : Nat → Int32) (mm : Nat) (nn : Nat) (nv : Nat) (hlo : 0 ≤ nv) (hhi : nv < 10) (hdm : nn + 1 ≤ mm) (hmm : mm ≤ 100) : zM G D vwCl (zT cy) l yJ6_getChars_ba4f3 wsJ6_getChars_ba4f3 rmJ6_getChars_ba4f3_d1 [.int (nI nv), .int (nI (nn + 1)), .ref b8] [(b8, .inl (cy 1, mm, .inl bx))] (some (.int (nI (nn + 0)))) [(b8, .inl (cy 1, mm, .inl (upd bx (nn + 0) (nI (48 + nv % 10)))))] := by
  refine zM_of (cc := cJ6_getChars_ba4f3) (maxL := 7) (ret := (some .int)) (by decide) rfl (Nat.le_of_ble_eq_true rfl) ?_
  intro p e s m below meth c A Q hend hx hb hml hr hts hown hlk hG hK hP hD hA hS ls hl
  have hown : s.vm.findClass RJ6 = some m.cls := hown
  have hl : lv_has ls 7 [(0, .int (nI nv)), (1, .int (nI (nn + 1))), (2, .ref b8)] := hl
  obtain ⟨tO, hztO, htO⟩ := (hg.2 A s hG).2.2.1
  obtain ⟨tT, hztT, htT⟩ := (hg.2 A s hG).2.2.2
  refine lv_iload_n hx hb dJ6_getChars_ba4f3_0 rfl (lv_at hl 1 rfl) ?_
  refine lv_istore (lv' := [(5, .int (nI (nn + 1))), (0, .int (nI nv)), (1, .int (nI (nn + 1))), (2, .ref b8)]) hx hb dJ6_getChars_ba4f3_1 hl (by decide) rfl (fun ls hl => ?_)
  refine lv_iload_n hx hb dJ6_getChars_ba4f3_3 rfl (lv_at hl 1 rfl) ?_
  refine lv_if_ge (tgt := 11) hx hb dJ6_getChars_ba4f3_4 (by decide) (fun c_1 => ?_) (fun c_1 => ?_)
  · refine lv_iconst (v := 0) hx hb dJ6_getChars_ba4f3_11 (by decide) ?_
    refine lv_istore (lv' := [(6, .int 0), (5, .int (nI (nn + 1))), (0, .int (nI nv)), (1, .int (nI (nn + 1))), (2, .ref b8)]) hx hb dJ6_getChars_ba4f3_12 hl (by decide) rfl (fun ls hl => ?_)
    refine lv_iload hx hb dJ6_getChars_ba4f3_14 (lv_at hl 0 rfl) ?_
    refine lv_if_ne (tgt := 22) hx hb dJ6_getChars_ba4f3_16 (by decide) (fun c_2 => ?_) (fun c_2 => ?_)
    · exact absurd c_2 (by decide)
    · refine lv_iload_n hx hb dJ6_getChars_ba4f3_19 rfl (lv_at hl 2 rfl) ?_
      refine lv_ineg hx hb dJ6_getChars_ba4f3_20 ?_
      refine lv_istore_n (lv' := [(0, .int (-(nI nv))), (6, .int 0), (5, .int (nI (nn + 1))), (1, .int (nI (nn + 1))), (2, .ref b8)]) hx hb dJ6_getChars_ba4f3_21 rfl hl (by decide) rfl (fun ls hl => ?_)
      refine lv_iload_n hx hb dJ6_getChars_ba4f3_22 rfl (lv_at hl 0 rfl) ?_
      refine lv_bipush (v := (-100)) hx hb dJ6_getChars_ba4f3_23 (by decide) ?_
      refine lv_icmp_gt (tgt := 72) hx hb dJ6_getChars_ba4f3_25 (by decide) (fun c_3 => ?_) (fun c_3 => ?_)
      · refine lv_aload_n hx hb dJ6_getChars_ba4f3_72 rfl (lv_at hl 4 rfl) ?_
        refine lv_iinc (v := nI (nn + 0)) (lv' := [(5, .int (nI (nn + 0))), (0, .int (-(nI nv))), (6, .int 0), (1, .int (nI (nn + 1))), (2, .ref b8)]) hx hb dJ6_getChars_ba4f3_73 hl (k := 2) rfl (zdec1 (nn + 0)) (by decide) rfl (fun ls hl => ?_)
        refine lv_iload hx hb dJ6_getChars_ba4f3_76 (lv_at hl 0 rfl) ?_
        refine va_gets hx hb hztO hS hown (hts _ (List.mem_of_getElem? (i := 1) rfl)) (fun _ h9 => h9) dJ6_getChars_ba4f3_78 ?_
        refine lv_iload_n hx hb dJ6_getChars_ba4f3_81 rfl (lv_at hl 1 rfl) ?_
        refine lv_ineg hx hb dJ6_getChars_ba4f3_82 ?_
        refine z_top (y := nI nv) (Int32.neg_neg) ?_
        refine va_tb (v := .int (zdg1 nv)) hx hb htO hS (vp_in_nI (by omega) (by decide)) (by rw [nI_clamp (by omega)]) dJ6_getChars_ba4f3_83 ?_
        refine zbast (x' := nI (48 + nv % 10)) 0 (nn + 0) hx hb hK hP hD hS rfl rfl (by omega) (by omega) (zby1 (by omega)) dJ6_getChars_ba4f3_84 (fun H locs hP hD hS => ?_)
        have hP : va_P D vwCl [(b8, .inl (cy 1, mm, .inl (upd bx (nn + 0) (nI (48 + nv % 10)))))] H := hP
        have hD : va_D A [(b8, .inl (cy 1, mm, .inl (upd bx (nn + 0) (nI (48 + nv % 10)))))] := hD
        refine lv_iload_n hx hb dJ6_getChars_ba4f3_85 rfl (lv_at hl 1 rfl) ?_
        refine lv_bipush (v := (-9)) hx hb dJ6_getChars_ba4f3_86 (by decide) ?_
        refine lv_icmp_ge (tgt := 104) hx hb dJ6_getChars_ba4f3_88 (by decide) (fun c_4 => ?_) (fun c_4 => ?_)
        · refine lv_iload hx hb dJ6_getChars_ba4f3_104 (lv_at hl 2 rfl) ?_
          refine lv_if_eq (tgt := 118) hx hb dJ6_getChars_ba4f3_106 (by decide) (fun c_5 => ?_) (fun c_5 => ?_)
          · refine lv_iload hx hb dJ6_getChars_ba4f3_118 (lv_at hl 0 rfl) ?_
            exact ziret hend hx hb hr hlk hK hP hD hS dJ6_getChars_ba4f3_120 rfl rfl
          · exact absurd c_5 (by decide)
        · exact absurd ((sb_nle (a := 9) (b := nv) (by omega) (by omega)).mpr (by omega)) c_4
      · exact absurd ((sb_nlt (a := 100) (b := nv) (by omega) (by omega)).mpr (by omega)) c_3
  · exact absurd (nI_pos' (by omega)) c_1

abbrev rmJ5_append_c97b9_d1 : Room := { frames := 1, cells := 0, slots := 0, locals := 26 }
set_option maxHeartbeats 4000000 in
set_option maxRecDepth 100000 in
theorem c_J5_append_c97b9_d1 {G : zG} (hg : zGJ G) (l : Launch) (D : va_G) (cy : Nat → ClassId) (o8 : Nat) (b8 : Nat) (ml : Int32) (nn : Nat) (bx : Nat → Int32) (mm : Nat) (nv : Nat) (hlo : 0 ≤ nv) (hhi : nv < 10) (hdm : nn + 1 ≤ mm) (hmm : mm ≤ 100) : zM G D vwCl (zT cy) l yJ5_append_c97b9 wsJ5_append_c97b9 rmJ5_append_c97b9_d1 [.ref o8, .int (nI nv)] [(o8, .inr (1, [.ref b8, .int 0, .int ml, .int (nI nn)])), (b8, .inl (cy 1, mm, .inl bx))] (some (.ref o8)) [(o8, .inr (1, [.ref b8, .int 0, .int ml, .int (nI (nn + 1))])), (b8, .inl (cy 1, mm, .inl (upd bx (nn + 0) (nI (48 + nv % 10)))))] := by
  refine zM_of (cc := cJ5_append_c97b9) (maxL := 4) (ret := (some (.object "java/lang/AbstractStringBuilder"))) (by decide) rfl (Nat.le_of_ble_eq_true rfl) ?_
  intro p e s m below meth c A Q hend hx hb hml hr hts hown hlk hG hK hP hD hA hS ls hl
  have hown : s.vm.findClass RJ5 = some m.cls := hown
  have in_RJ4 : ∀ w ∈ u_ws RJ4 TJ4 4, w ∈ wsJ5_append_c97b9 := by decide +kernel
  have hl : lv_has ls 4 [(0, .ref o8), (1, .int (nI nv))] := hl
  refine lv_aload_n hx hb dJ5_append_c97b9_0 rfl (lv_at hl 0 rfl) ?_
  refine va_get (D := D) (ci := 1) (v := .int (nI nn)) (C := RJ4) (T := TJ4) (N := 4) hx hb hts in_RJ4 hown hK hP 0 rfl rfl 3 (by decide) (hts _ (List.mem_of_getElem? (i := 1) rfl)) (fun _ h9 => h9) rfl dJ5_append_c97b9_1 ?_
  refine lv_istore_n (lv' := [(2, .int (nI nn)), (0, .ref o8), (1, .int (nI nv))]) hx hb dJ5_append_c97b9_4 rfl hl (by decide) rfl (fun ls hl => ?_)
  refine lv_iload_n hx hb dJ5_append_c97b9_5 rfl (lv_at hl 0 rfl) ?_
  refine lv_iload_n hx hb dJ5_append_c97b9_6 rfl (lv_at hl 2 rfl) ?_
  refine zcS (As := [.int (nI nv)]) (rest := [.int (nI nn)]) [] hg.1.1 ⟨hx, hb, hml, hown, hts⟩ (c_J6_stringSize_0f7a4_d1 hg.1 l D cy nv (by first | assumption | omega) (by first | assumption | omega)) (va_cwS 1 hts gJ5_append_c97b9_J6_stringSize_0f7a4 rfl rfl rfl (by decide +kernel) ⟨Nat.le_of_ble_eq_true rfl, Nat.le_of_ble_eq_true rfl⟩) hG hK hP hD hS hA rfl rfl rfl  rfl hl.1 rfl (Nat.le_of_ble_eq_true rfl) dJ5_append_c97b9_7 ⟨Nat.zero_le _, Nat.zero_le _⟩ (fun H locs hP hD hS => ?_)
  have hP : va_P D vwCl [(o8, .inr (1, [.ref b8, .int 0, .int ml, .int (nI nn)])), (b8, .inl (cy 1, mm, .inl bx))] H := hP
  have hD : va_D A [(o8, .inr (1, [.ref b8, .int 0, .int ml, .int (nI nn)])), (b8, .inl (cy 1, mm, .inl bx))] := hD
  refine lv_iadd hx hb dJ5_append_c97b9_10 ?_
  refine z_top (y := nI (nn + 1)) (nI_add nn 1) ?_
  refine lv_istore_n (lv' := [(3, .int (nI (nn + 1))), (2, .int (nI nn)), (0, .ref o8), (1, .int (nI nv))]) hx hb dJ5_append_c97b9_11 rfl hl (by decide) rfl (fun ls hl => ?_)
  refine lv_aload_n hx hb dJ5_append_c97b9_12 rfl (lv_at hl 2 rfl) ?_
  refine lv_iload_n hx hb dJ5_append_c97b9_13 rfl (lv_at hl 0 rfl) ?_
  refine zcU (As := [.int (nI (nn + 1))]) (rest := []) [0, 1] 0 hg.1.1 ⟨hx, hb, hml, hown, hts⟩ (c_J5_ensureCapacityInternal_d00df_in hg l D cy o8 b8 ml nn bx mm (nn + 1) hdm (by first | assumption | omega)) (va_cwU 1 hts gJ5_append_c97b9_J5_ensureCapacityInternal_d00df_u100J4 rfl rfl rfl rfl (by decide +kernel) ⟨Nat.le_of_ble_eq_true rfl, Nat.le_of_ble_eq_true rfl⟩) hG hK hP hD hS hA rfl rfl rfl rfl rfl rfl hl.1 rfl (Nat.le_of_ble_eq_true rfl) dJ5_append_c97b9_14 ⟨Nat.zero_le _, Nat.zero_le _⟩ (fun H locs hP hD hS => ?_)
  have hP : va_P D vwCl [(o8, .inr (1, [.ref b8, .int 0, .int ml, .int (nI nn)])), (b8, .inl (cy 1, mm, .inl bx))] H := hP
  have hD : va_D A [(o8, .inr (1, [.ref b8, .int 0, .int ml, .int (nI nn)])), (b8, .inl (cy 1, mm, .inl bx))] := hD
  refine lv_aload_n hx hb dJ5_append_c97b9_17 rfl (lv_at hl 2 rfl) ?_
  refine zcU (As := []) (rest := []) [0] 0 hg.1.1 ⟨hx, hb, hml, hown, hts⟩ (c_J5_isLatin1_aae02 hg l D cy o8 b8 ml nn) (va_cwU 0 hts gJ5_append_c97b9_J5_isLatin1_aae02_u83J4 rfl rfl rfl rfl (by decide +kernel) ⟨Nat.le_of_ble_eq_true rfl, Nat.le_of_ble_eq_true rfl⟩) hG hK hP hD hS hA rfl rfl rfl rfl rfl rfl hl.1 rfl (Nat.le_of_ble_eq_true rfl) dJ5_append_c97b9_18 ⟨Nat.zero_le _, Nat.zero_le _⟩ (fun H locs hP hD hS => ?_)
  have hP : va_P D vwCl [(o8, .inr (1, [.ref b8, .int 0, .int ml, .int (nI nn)])), (b8, .inl (cy 1, mm, .inl bx))] H := hP
  have hD : va_D A [(o8, .inr (1, [.ref b8, .int 0, .int ml, .int (nI nn)])), (b8, .inl (cy 1, mm, .inl bx))] := hD
  refine lv_if_eq (tgt := 37) hx hb dJ5_append_c97b9_21 (by decide) (fun c_1 => ?_) (fun c_1 => ?_)
  · exact absurd c_1 (by decide)
  · refine lv_iload_n hx hb dJ5_append_c97b9_24 rfl (lv_at hl 3 rfl) ?_
    refine lv_iload_n hx hb dJ5_append_c97b9_25 rfl (lv_at hl 0 rfl) ?_
    refine lv_aload_n hx hb dJ5_append_c97b9_26 rfl (lv_at hl 2 rfl) ?_
    refine va_get (D := D) (ci := 1) (v := .ref b8) (C := RJ4) (T := TJ4) (N := 4) hx hb hts in_RJ4 hown hK hP 0 rfl rfl 0 (by decide) (hts _ (List.mem_of_getElem? (i := 2) rfl)) (fun _ h9 => h9) rfl dJ5_append_c97b9_27 ?_
    refine zcS (As := [.int (nI nv), .int (nI (nn + 1)), .ref b8]) (rest := []) [1] hg.1.1 ⟨hx, hb, hml, hown, hts⟩ (c_J6_getChars_ba4f3_d1 hg l D cy b8 bx mm nn nv (by first | assumption | omega) (by first | assumption | omega) (by first | assumption | omega) (by first | assumption | omega)) (va_cwS 3 hts gJ5_append_c97b9_J6_getChars_ba4f3 rfl rfl rfl (by decide +kernel) ⟨Nat.le_of_ble_eq_true rfl, Nat.le_of_ble_eq_true rfl⟩) hG hK hP hD hS hA rfl rfl (Eq.trans (b := [b8]) rfl rfl)  rfl hl.1 rfl (Nat.le_of_ble_eq_true rfl) dJ5_append_c97b9_30 ⟨Nat.zero_le _, Nat.zero_le _⟩ (fun H locs hP hD hS => ?_)
    have hP : va_P D vwCl [(o8, .inr (1, [.ref b8, .int 0, .int ml, .int (nI nn)])), (b8, .inl (cy 1, mm, .inl (upd bx (nn + 0) (nI (48 + nv % 10)))))] H := hP
    have hD : va_D A [(o8, .inr (1, [.ref b8, .int 0, .int ml, .int (nI nn)])), (b8, .inl (cy 1, mm, .inl (upd bx (nn + 0) (nI (48 + nv % 10)))))] := hD
    refine lv_pop hx hb dJ5_append_c97b9_33 rfl ?_
    refine lv_goto (tgt := 48) hx hb dJ5_append_c97b9_34 (by decide) ?_
    refine lv_aload_n hx hb dJ5_append_c97b9_48 rfl (lv_at hl 2 rfl) ?_
    refine lv_iload_n hx hb dJ5_append_c97b9_49 rfl (lv_at hl 0 rfl) ?_
    refine va_put (D := D) (ci := 1) (v := .int (nI (nn + 1))) (ty := .int) (C := RJ4) (T := TJ4) (N := 4) hx hb hts in_RJ4 tyJ4 tyJ4_ok nmJ4 hown hK hP hD hS 0 rfl rfl 3 (by decide) (hts _ (List.mem_of_getElem? (i := 1) rfl)) (fun _ h9 => h9) rfl (by decide +kernel) rfl rfl (Nat.le_of_ble_eq_true rfl) dJ5_append_c97b9_50 (fun H locs hP hD hS => ?_)
    have hP : va_P D vwCl [(o8, .inr (1, [.ref b8, .int 0, .int ml, .int (nI (nn + 1))])), (b8, .inl (cy 1, mm, .inl (upd bx (nn + 0) (nI (48 + nv % 10)))))] H := hP
    have hD : va_D A [(o8, .inr (1, [.ref b8, .int 0, .int ml, .int (nI (nn + 1))])), (b8, .inl (cy 1, mm, .inl (upd bx (nn + 0) (nI (48 + nv % 10)))))] := hD
    refine lv_aload_n hx hb dJ5_append_c97b9_53 rfl (lv_at hl 2 rfl) ?_
    exact zaret hend hx hb hr (Or.inl ⟨_, rfl⟩) hlk hK hP hD hS dJ5_append_c97b9_54 rfl rfl

abbrev rmJ4_append_bf812_d1 : Room := { frames := 2, cells := 0, slots := 0, locals := 49 }
set_option maxHeartbeats 4000000 in
set_option maxRecDepth 100000 in
theorem c_J4_append_bf812_d1 {G : zG} (hg : zGJ G) (l : Launch) (D : va_G) (cy : Nat → ClassId) (o8 : Nat) (b8 : Nat) (ml : Int32) (nn : Nat) (bx : Nat → Int32) (mm : Nat) (nv : Nat) (hlo : 0 ≤ nv) (hhi : nv < 10) (hdm : nn + 1 ≤ mm) (hmm : mm ≤ 100) : zM G D vwCl (zT cy) l yJ4_append_bf812 wsJ4_append_bf812 rmJ4_append_bf812_d1 [.ref o8, .int (nI nv)] [(o8, .inr (1, [.ref b8, .int 0, .int ml, .int (nI nn)])), (b8, .inl (cy 1, mm, .inl bx))] (some (.ref o8)) [(o8, .inr (1, [.ref b8, .int 0, .int ml, .int (nI (nn + 1))])), (b8, .inl (cy 1, mm, .inl (upd bx (nn + 0) (nI (48 + nv % 10)))))] := by
  refine zM_of (cc := cJ4_append_bf812) (maxL := 2) (ret := (some (.object "java/lang/StringBuilder"))) (by decide) rfl (Nat.le_of_ble_eq_true rfl) ?_
  intro p e s m below meth c A Q hend hx hb hml hr hts hown hlk hG hK hP hD hA hS ls hl
  have hown : s.vm.findClass RJ4 = some m.cls := hown
  have hl : lv_has ls 2 [(0, .ref o8), (1, .int (nI nv))] := hl
  refine lv_aload_n hx hb dJ4_append_bf812_0 rfl (lv_at hl 0 rfl) ?_
  refine lv_iload_n hx hb dJ4_append_bf812_1 rfl (lv_at hl 1 rfl) ?_
  refine zcSU (As := [.int (nI nv)]) (rest := []) [0, 1] 0 hg.1.1 ⟨hx, hb, hml, hown, hts⟩ (c_J5_append_c97b9_d1 hg l D cy o8 b8 ml nn bx mm nv (by first | assumption | omega) (by first | assumption | omega) (by first | assumption | omega) (by first | assumption | omega)) (va_cwSU 1 hts gJ4_append_bf812_J5_append_c97b9_s53 rfl rfl rfl (by decide +kernel) ⟨Nat.le_of_ble_eq_true rfl, Nat.le_of_ble_eq_true rfl⟩) hG hK hP hD hS hA rfl rfl (Eq.trans (b := [o8, b8]) rfl rfl) rfl rfl rfl hl.1 rfl (Nat.le_of_ble_eq_true rfl) dJ4_append_bf812_2 ⟨Nat.zero_le _, Nat.zero_le _⟩ (fun H locs hP hD hS => ?_)
  have hP : va_P D vwCl [(o8, .inr (1, [.ref b8, .int 0, .int ml, .int (nI (nn + 1))])), (b8, .inl (cy 1, mm, .inl (upd bx (nn + 0) (nI (48 + nv % 10)))))] H := hP
  have hD : va_D A [(o8, .inr (1, [.ref b8, .int 0, .int ml, .int (nI (nn + 1))])), (b8, .inl (cy 1, mm, .inl (upd bx (nn + 0) (nI (48 + nv % 10)))))] := hD
  refine lv_pop hx hb dJ4_append_bf812_5 rfl ?_
  refine lv_aload_n hx hb dJ4_append_bf812_6 rfl (lv_at hl 0 rfl) ?_
  exact zaret hend hx hb hr (Or.inl ⟨_, rfl⟩) hlk hK hP hD hS dJ4_append_bf812_7 rfl rfl

abbrev rmJ6_stringSize_0f7a4_d2 : Room := { frames := 0, cells := 0, slots := 0, locals := 0 }
set_option maxHeartbeats 4000000 in
set_option maxRecDepth 100000 in
theorem c_J6_stringSize_0f7a4_d2 {G : zG} (hg : zGN G) (l : Launch) (D : va_G) (cy : Nat → ClassId) (nv : Nat) (hlo : 10 ≤ nv) (hhi : nv < 100) : zM G D vwCl (zT cy) l yJ6_stringSize_0f7a4 wsJ6_stringSize_0f7a4 rmJ6_stringSize_0f7a4_d2 [.int (nI nv)] [] (some (.int 2)) [] := by
  refine zM_of (cc := cJ6_stringSize_0f7a4) (maxL := 4) (ret := (some .int)) (by decide) rfl (Nat.le_of_ble_eq_true rfl) ?_
  intro p e s m below meth c A Q hend hx hb hml hr hts hown hlk hG hK hP hD hA hS ls hl
  have hown : s.vm.findClass RJ6 = some m.cls := hown
  have hl : lv_has ls 4 [(0, .int (nI nv))] := hl
  refine lv_iconst (v := 1) hx hb dJ6_stringSize_0f7a4_0 (by decide) ?_
  refine lv_istore_n (lv' := [(1, .int 1), (0, .int (nI nv))]) hx hb dJ6_stringSize_0f7a4_1 rfl hl (by decide) rfl (fun ls hl => ?_)
  refine lv_iload_n hx hb dJ6_stringSize_0f7a4_2 rfl (lv_at hl 1 rfl) ?_
  refine lv_if_lt (tgt := 11) hx hb dJ6_stringSize_0f7a4_3 (by decide) (fun c_1 => ?_) (fun c_1 => ?_)
  · exact absurd c_1 (nI_pos (by omega))
  · refine lv_iconst (v := 0) hx hb dJ6_stringSize_0f7a4_6 (by decide) ?_
    refine lv_istore_n (lv' := [(1, .int 0), (0, .int (nI nv))]) hx hb dJ6_stringSize_0f7a4_7 rfl hl (by decide) rfl (fun ls hl => ?_)
    refine lv_iload_n hx hb dJ6_stringSize_0f7a4_8 rfl (lv_at hl 1 rfl) ?_
    refine lv_ineg hx hb dJ6_stringSize_0f7a4_9 ?_
    refine lv_istore_n (lv' := [(0, .int (-(nI nv))), (1, .int 0)]) hx hb dJ6_stringSize_0f7a4_10 rfl hl (by decide) rfl (fun ls hl => ?_)
    refine lv_bipush (v := (-10)) hx hb dJ6_stringSize_0f7a4_11 (by decide) ?_
    refine lv_istore_n (lv' := [(2, .int (-10)), (0, .int (-(nI nv))), (1, .int 0)]) hx hb dJ6_stringSize_0f7a4_13 rfl hl (by decide) rfl (fun ls hl => ?_)
    refine lv_iconst (v := 1) hx hb dJ6_stringSize_0f7a4_14 (by decide) ?_
    refine lv_istore_n (lv' := [(3, .int 1), (2, .int (-10)), (0, .int (-(nI nv))), (1, .int 0)]) hx hb dJ6_stringSize_0f7a4_15 rfl hl (by decide) rfl (fun ls hl => ?_)
    refine lv_iload_n hx hb dJ6_stringSize_0f7a4_16 rfl (lv_at hl 0 rfl) ?_
    refine lv_bipush (v := 10) hx hb dJ6_stringSize_0f7a4_17 (by decide) ?_
    refine lv_icmp_ge (tgt := 42) hx hb dJ6_stringSize_0f7a4_19 (by decide) (fun c_2 => ?_) (fun c_2 => ?_)
    · exact absurd c_2 (by decide)
    · refine lv_iload_n hx hb dJ6_stringSize_0f7a4_22 rfl (lv_at hl 2 rfl) ?_
      refine lv_iload_n hx hb dJ6_stringSize_0f7a4_23 rfl (lv_at hl 1 rfl) ?_
      refine lv_icmp_le (tgt := 31) hx hb dJ6_stringSize_0f7a4_24 (by decide) (fun c_3 => ?_) (fun c_3 => ?_)
      · refine lv_bipush (v := 10) hx hb dJ6_stringSize_0f7a4_31 (by decide) ?_
        refine lv_iload_n hx hb dJ6_stringSize_0f7a4_33 rfl (lv_at hl 1 rfl) ?_
        refine lv_imul hx hb dJ6_stringSize_0f7a4_34 ?_
        refine z_top (y := (-100)) (by decide) ?_
        refine lv_istore_n (lv' := [(2, .int (-100)), (3, .int 1), (0, .int (-(nI nv))), (1, .int 0)]) hx hb dJ6_stringSize_0f7a4_35 rfl hl (by decide) rfl (fun ls hl => ?_)
        refine lv_iinc (v := 2) (lv' := [(3, .int 2), (2, .int (-100)), (0, .int (-(nI nv))), (1, .int 0)]) hx hb dJ6_stringSize_0f7a4_36 hl (k := 1) rfl (by decide) (by decide) rfl (fun ls hl => ?_)
        refine lv_goto (tgt := 16) hx hb dJ6_stringSize_0f7a4_39 (by decide) ?_
        refine lv_iload_n hx hb dJ6_stringSize_0f7a4_16 rfl (lv_at hl 0 rfl) ?_
        refine lv_bipush (v := 10) hx hb dJ6_stringSize_0f7a4_17 (by decide) ?_
        refine lv_icmp_ge (tgt := 42) hx hb dJ6_stringSize_0f7a4_19 (by decide) (fun c_4 => ?_) (fun c_4 => ?_)
        · exact absurd c_4 (by decide)
        · refine lv_iload_n hx hb dJ6_stringSize_0f7a4_22 rfl (lv_at hl 2 rfl) ?_
          refine lv_iload_n hx hb dJ6_stringSize_0f7a4_23 rfl (lv_at hl 1 rfl) ?_
          refine lv_icmp_le (tgt := 31) hx hb dJ6_stringSize_0f7a4_24 (by decide) (fun c_5 => ?_) (fun c_5 => ?_)
          · exact absurd ((zneg_le (a := nv) (b := 100) (by omega) (by omega)).mp c_5) (by omega)
          · refine lv_iload_n hx hb dJ6_stringSize_0f7a4_27 rfl (lv_at hl 0 rfl) ?_
            refine lv_iload_n hx hb dJ6_stringSize_0f7a4_28 rfl (lv_at hl 3 rfl) ?_
            refine lv_iadd hx hb dJ6_stringSize_0f7a4_29 ?_
            refine z_top (y := 2) (by decide) ?_
            exact ziret hend hx hb hr hlk hK hP hD hS dJ6_stringSize_0f7a4_30 rfl rfl
      · exact absurd ((zneg_le (a := nv) (b := 10) (by omega) (by omega)).mpr (by omega)) c_3

abbrev rmJ6_getChars_ba4f3_d2 : Room := { frames := 0, cells := 0, slots := 0, locals := 0 }
set_option maxHeartbeats 4000000 in
set_option maxRecDepth 100000 in
theorem c_J6_getChars_ba4f3_d2 {G : zG} (hg : zGJ G) (l : Launch) (D : va_G) (cy : Nat → ClassId) (b8 : Nat) (bx : Nat → Int32) (mm : Nat) (nn : Nat) (nv : Nat) (hlo : 10 ≤ nv) (hhi : nv < 100) (hdm : nn + 2 ≤ mm) (hmm : mm ≤ 100) : zM G D vwCl (zT cy) l yJ6_getChars_ba4f3 wsJ6_getChars_ba4f3 rmJ6_getChars_ba4f3_d2 [.int (nI nv), .int (nI (nn + 2)), .ref b8] [(b8, .inl (cy 1, mm, .inl bx))] (some (.int (nI (nn + 0)))) [(b8, .inl (cy 1, mm, .inl (upd (upd bx (nn + 1) (nI (48 + nv % 10))) (nn + 0) (nI (48 + nv / 10)))))] := by
  refine zM_of (cc := cJ6_getChars_ba4f3) (maxL := 7) (ret := (some .int)) (by decide) rfl (Nat.le_of_ble_eq_true rfl) ?_
  intro p e s m below meth c A Q hend hx hb hml hr hts hown hlk hG hK hP hD hA hS ls hl
  have hown : s.vm.findClass RJ6 = some m.cls := hown
  have hl : lv_has ls 7 [(0, .int (nI nv)), (1, .int (nI (nn + 2))), (2, .ref b8)] := hl
  obtain ⟨tO, hztO, htO⟩ := (hg.2 A s hG).2.2.1
  obtain ⟨tT, hztT, htT⟩ := (hg.2 A s hG).2.2.2
  refine lv_iload_n hx hb dJ6_getChars_ba4f3_0 rfl (lv_at hl 1 rfl) ?_
  refine lv_istore (lv' := [(5, .int (nI (nn + 2))), (0, .int (nI nv)), (1, .int (nI (nn + 2))), (2, .ref b8)]) hx hb dJ6_getChars_ba4f3_1 hl (by decide) rfl (fun ls hl => ?_)
  refine lv_iload_n hx hb dJ6_getChars_ba4f3_3 rfl (lv_at hl 1 rfl) ?_
  refine lv_if_ge (tgt := 11) hx hb dJ6_getChars_ba4f3_4 (by decide) (fun c_1 => ?_) (fun c_1 => ?_)
  · refine lv_iconst (v := 0) hx hb dJ6_getChars_ba4f3_11 (by decide) ?_
    refine lv_istore (lv' := [(6, .int 0), (5, .int (nI (nn + 2))), (0, .int (nI nv)), (1, .int (nI (nn + 2))), (2, .ref b8)]) hx hb dJ6_getChars_ba4f3_12 hl (by decide) rfl (fun ls hl => ?_)
    refine lv_iload hx hb dJ6_getChars_ba4f3_14 (lv_at hl 0 rfl) ?_
    refine lv_if_ne (tgt := 22) hx hb dJ6_getChars_ba4f3_16 (by decide) (fun c_2 => ?_) (fun c_2 => ?_)
    · exact absurd c_2 (by decide)
    · refine lv_iload_n hx hb dJ6_getChars_ba4f3_19 rfl (lv_at hl 2 rfl) ?_
      refine lv_ineg hx hb dJ6_getChars_ba4f3_20 ?_
      refine lv_istore_n (lv' := [(0, .int (-(nI nv))), (6, .int 0), (5, .int (nI (nn + 2))), (1, .int (nI (nn + 2))), (2, .ref b8)]) hx hb dJ6_getChars_ba4f3_21 rfl hl (by decide) rfl (fun ls hl => ?_)
      refine lv_iload_n hx hb dJ6_getChars_ba4f3_22 rfl (lv_at hl 0 rfl) ?_
      refine lv_bipush (v := (-100)) hx hb dJ6_getChars_ba4f3_23 (by decide) ?_
      refine lv_icmp_gt (tgt := 72) hx hb dJ6_getChars_ba4f3_25 (by decide) (fun c_3 => ?_) (fun c_3 => ?_)
      · refine lv_aload_n hx hb dJ6_getChars_ba4f3_72 rfl (lv_at hl 4 rfl) ?_
        refine lv_iinc (v := nI (nn + 1)) (lv' := [(5, .int (nI (nn + 1))), (0, .int (-(nI nv))), (6, .int 0), (1, .int (nI (nn + 2))), (2, .ref b8)]) hx hb dJ6_getChars_ba4f3_73 hl (k := 2) rfl (zdec1 (nn + 1)) (by decide) rfl (fun ls hl => ?_)
        refine lv_iload hx hb dJ6_getChars_ba4f3_76 (lv_at hl 0 rfl) ?_
        refine va_gets hx hb hztO hS hown (hts _ (List.mem_of_getElem? (i := 1) rfl)) (fun _ h9 => h9) dJ6_getChars_ba4f3_78 ?_
        refine lv_iload_n hx hb dJ6_getChars_ba4f3_81 rfl (lv_at hl 1 rfl) ?_
        refine lv_ineg hx hb dJ6_getChars_ba4f3_82 ?_
        refine z_top (y := nI nv) (Int32.neg_neg) ?_
        refine va_tb (v := .int (zdg1 nv)) hx hb htO hS (vp_in_nI (by omega) (by decide)) (by rw [nI_clamp (by omega)]) dJ6_getChars_ba4f3_83 ?_
        refine zbast (x' := nI (48 + nv % 10)) 0 (nn + 1) hx hb hK hP hD hS rfl rfl (by omega) (by omega) (zby1 (by omega)) dJ6_getChars_ba4f3_84 (fun H locs hP hD hS => ?_)
        have hP : va_P D vwCl [(b8, .inl (cy 1, mm, .inl (upd bx (nn + 1) (nI (48 + nv % 10)))))] H := hP
        have hD : va_D A [(b8, .inl (cy 1, mm, .inl (upd bx (nn + 1) (nI (48 + nv % 10)))))] := hD
        refine lv_iload_n hx hb dJ6_getChars_ba4f3_85 rfl (lv_at hl 1 rfl) ?_
        refine lv_bipush (v := (-9)) hx hb dJ6_getChars_ba4f3_86 (by decide) ?_
        refine lv_icmp_ge (tgt := 104) hx hb dJ6_getChars_ba4f3_88 (by decide) (fun c_4 => ?_) (fun c_4 => ?_)
        · exact absurd ((sb_nle (a := 9) (b := nv) (by omega) (by omega)).mp c_4) (by omega)
        · refine lv_aload_n hx hb dJ6_getChars_ba4f3_91 rfl (lv_at hl 4 rfl) ?_
          refine lv_iinc (v := nI (nn + 0)) (lv' := [(5, .int (nI (nn + 0))), (0, .int (-(nI nv))), (6, .int 0), (1, .int (nI (nn + 2))), (2, .ref b8)]) hx hb dJ6_getChars_ba4f3_92 hl (k := 0) rfl (zdec1 (nn + 0)) (by decide) rfl (fun ls hl => ?_)
          refine lv_iload hx hb dJ6_getChars_ba4f3_95 (lv_at hl 0 rfl) ?_
          refine va_gets hx hb hztT hS hown (hts _ (List.mem_of_getElem? (i := 2) rfl)) (fun _ h9 => h9) dJ6_getChars_ba4f3_97 ?_
          refine lv_iload_n hx hb dJ6_getChars_ba4f3_100 rfl (lv_at hl 1 rfl) ?_
          refine lv_ineg hx hb dJ6_getChars_ba4f3_101 ?_
          refine z_top (y := nI nv) (Int32.neg_neg) ?_
          refine va_tb (v := .int (zdg2 nv)) hx hb htT hS (vp_in_nI (by omega) (by decide)) (by rw [nI_clamp (by omega)]) dJ6_getChars_ba4f3_102 ?_
          refine zbast (x' := nI (48 + nv / 10)) 0 (nn + 0) hx hb hK hP hD hS rfl rfl (by omega) (by omega) (zby2 (by omega)) dJ6_getChars_ba4f3_103 (fun H locs hP hD hS => ?_)
          have hP : va_P D vwCl [(b8, .inl (cy 1, mm, .inl (upd (upd bx (nn + 1) (nI (48 + nv % 10))) (nn + 0) (nI (48 + nv / 10)))))] H := hP
          have hD : va_D A [(b8, .inl (cy 1, mm, .inl (upd (upd bx (nn + 1) (nI (48 + nv % 10))) (nn + 0) (nI (48 + nv / 10)))))] := hD
          refine lv_iload hx hb dJ6_getChars_ba4f3_104 (lv_at hl 2 rfl) ?_
          refine lv_if_eq (tgt := 118) hx hb dJ6_getChars_ba4f3_106 (by decide) (fun c_5 => ?_) (fun c_5 => ?_)
          · refine lv_iload hx hb dJ6_getChars_ba4f3_118 (lv_at hl 0 rfl) ?_
            exact ziret hend hx hb hr hlk hK hP hD hS dJ6_getChars_ba4f3_120 rfl rfl
          · exact absurd c_5 (by decide)
      · exact absurd ((sb_nlt (a := 100) (b := nv) (by omega) (by omega)).mpr (by omega)) c_3
  · exact absurd (nI_pos' (by omega)) c_1

abbrev rmJ5_append_c97b9_d2 : Room := { frames := 1, cells := 0, slots := 0, locals := 26 }
set_option maxHeartbeats 4000000 in
set_option maxRecDepth 100000 in
theorem c_J5_append_c97b9_d2 {G : zG} (hg : zGJ G) (l : Launch) (D : va_G) (cy : Nat → ClassId) (o8 : Nat) (b8 : Nat) (ml : Int32) (nn : Nat) (bx : Nat → Int32) (mm : Nat) (nv : Nat) (hlo : 10 ≤ nv) (hhi : nv < 100) (hdm : nn + 2 ≤ mm) (hmm : mm ≤ 100) : zM G D vwCl (zT cy) l yJ5_append_c97b9 wsJ5_append_c97b9 rmJ5_append_c97b9_d2 [.ref o8, .int (nI nv)] [(o8, .inr (1, [.ref b8, .int 0, .int ml, .int (nI nn)])), (b8, .inl (cy 1, mm, .inl bx))] (some (.ref o8)) [(o8, .inr (1, [.ref b8, .int 0, .int ml, .int (nI (nn + 2))])), (b8, .inl (cy 1, mm, .inl (upd (upd bx (nn + 1) (nI (48 + nv % 10))) (nn + 0) (nI (48 + nv / 10)))))] := by
  refine zM_of (cc := cJ5_append_c97b9) (maxL := 4) (ret := (some (.object "java/lang/AbstractStringBuilder"))) (by decide) rfl (Nat.le_of_ble_eq_true rfl) ?_
  intro p e s m below meth c A Q hend hx hb hml hr hts hown hlk hG hK hP hD hA hS ls hl
  have hown : s.vm.findClass RJ5 = some m.cls := hown
  have in_RJ4 : ∀ w ∈ u_ws RJ4 TJ4 4, w ∈ wsJ5_append_c97b9 := by decide +kernel
  have hl : lv_has ls 4 [(0, .ref o8), (1, .int (nI nv))] := hl
  refine lv_aload_n hx hb dJ5_append_c97b9_0 rfl (lv_at hl 0 rfl) ?_
  refine va_get (D := D) (ci := 1) (v := .int (nI nn)) (C := RJ4) (T := TJ4) (N := 4) hx hb hts in_RJ4 hown hK hP 0 rfl rfl 3 (by decide) (hts _ (List.mem_of_getElem? (i := 1) rfl)) (fun _ h9 => h9) rfl dJ5_append_c97b9_1 ?_
  refine lv_istore_n (lv' := [(2, .int (nI nn)), (0, .ref o8), (1, .int (nI nv))]) hx hb dJ5_append_c97b9_4 rfl hl (by decide) rfl (fun ls hl => ?_)
  refine lv_iload_n hx hb dJ5_append_c97b9_5 rfl (lv_at hl 0 rfl) ?_
  refine lv_iload_n hx hb dJ5_append_c97b9_6 rfl (lv_at hl 2 rfl) ?_
  refine zcS (As := [.int (nI nv)]) (rest := [.int (nI nn)]) [] hg.1.1 ⟨hx, hb, hml, hown, hts⟩ (c_J6_stringSize_0f7a4_d2 hg.1 l D cy nv (by first | assumption | omega) (by first | assumption | omega)) (va_cwS 1 hts gJ5_append_c97b9_J6_stringSize_0f7a4 rfl rfl rfl (by decide +kernel) ⟨Nat.le_of_ble_eq_true rfl, Nat.le_of_ble_eq_true rfl⟩) hG hK hP hD hS hA rfl rfl rfl  rfl hl.1 rfl (Nat.le_of_ble_eq_true rfl) dJ5_append_c97b9_7 ⟨Nat.zero_le _, Nat.zero_le _⟩ (fun H locs hP hD hS => ?_)
  have hP : va_P D vwCl [(o8, .inr (1, [.ref b8, .int 0, .int ml, .int (nI nn)])), (b8, .inl (cy 1, mm, .inl bx))] H := hP
  have hD : va_D A [(o8, .inr (1, [.ref b8, .int 0, .int ml, .int (nI nn)])), (b8, .inl (cy 1, mm, .inl bx))] := hD
  refine lv_iadd hx hb dJ5_append_c97b9_10 ?_
  refine z_top (y := nI (nn + 2)) (nI_add nn 2) ?_
  refine lv_istore_n (lv' := [(3, .int (nI (nn + 2))), (2, .int (nI nn)), (0, .ref o8), (1, .int (nI nv))]) hx hb dJ5_append_c97b9_11 rfl hl (by decide) rfl (fun ls hl => ?_)
  refine lv_aload_n hx hb dJ5_append_c97b9_12 rfl (lv_at hl 2 rfl) ?_
  refine lv_iload_n hx hb dJ5_append_c97b9_13 rfl (lv_at hl 0 rfl) ?_
  refine zcU (As := [.int (nI (nn + 2))]) (rest := []) [0, 1] 0 hg.1.1 ⟨hx, hb, hml, hown, hts⟩ (c_J5_ensureCapacityInternal_d00df_in hg l D cy o8 b8 ml nn bx mm (nn + 2) hdm (by first | assumption | omega)) (va_cwU 1 hts gJ5_append_c97b9_J5_ensureCapacityInternal_d00df_u100J4 rfl rfl rfl rfl (by decide +kernel) ⟨Nat.le_of_ble_eq_true rfl, Nat.le_of_ble_eq_true rfl⟩) hG hK hP hD hS hA rfl rfl rfl rfl rfl rfl hl.1 rfl (Nat.le_of_ble_eq_true rfl) dJ5_append_c97b9_14 ⟨Nat.zero_le _, Nat.zero_le _⟩ (fun H locs hP hD hS => ?_)
  have hP : va_P D vwCl [(o8, .inr (1, [.ref b8, .int 0, .int ml, .int (nI nn)])), (b8, .inl (cy 1, mm, .inl bx))] H := hP
  have hD : va_D A [(o8, .inr (1, [.ref b8, .int 0, .int ml, .int (nI nn)])), (b8, .inl (cy 1, mm, .inl bx))] := hD
  refine lv_aload_n hx hb dJ5_append_c97b9_17 rfl (lv_at hl 2 rfl) ?_
  refine zcU (As := []) (rest := []) [0] 0 hg.1.1 ⟨hx, hb, hml, hown, hts⟩ (c_J5_isLatin1_aae02 hg l D cy o8 b8 ml nn) (va_cwU 0 hts gJ5_append_c97b9_J5_isLatin1_aae02_u83J4 rfl rfl rfl rfl (by decide +kernel) ⟨Nat.le_of_ble_eq_true rfl, Nat.le_of_ble_eq_true rfl⟩) hG hK hP hD hS hA rfl rfl rfl rfl rfl rfl hl.1 rfl (Nat.le_of_ble_eq_true rfl) dJ5_append_c97b9_18 ⟨Nat.zero_le _, Nat.zero_le _⟩ (fun H locs hP hD hS => ?_)
  have hP : va_P D vwCl [(o8, .inr (1, [.ref b8, .int 0, .int ml, .int (nI nn)])), (b8, .inl (cy 1, mm, .inl bx))] H := hP
  have hD : va_D A [(o8, .inr (1, [.ref b8, .int 0, .int ml, .int (nI nn)])), (b8, .inl (cy 1, mm, .inl bx))] := hD
  refine lv_if_eq (tgt := 37) hx hb dJ5_append_c97b9_21 (by decide) (fun c_1 => ?_) (fun c_1 => ?_)
  · exact absurd c_1 (by decide)
  · refine lv_iload_n hx hb dJ5_append_c97b9_24 rfl (lv_at hl 3 rfl) ?_
    refine lv_iload_n hx hb dJ5_append_c97b9_25 rfl (lv_at hl 0 rfl) ?_
    refine lv_aload_n hx hb dJ5_append_c97b9_26 rfl (lv_at hl 2 rfl) ?_
    refine va_get (D := D) (ci := 1) (v := .ref b8) (C := RJ4) (T := TJ4) (N := 4) hx hb hts in_RJ4 hown hK hP 0 rfl rfl 0 (by decide) (hts _ (List.mem_of_getElem? (i := 2) rfl)) (fun _ h9 => h9) rfl dJ5_append_c97b9_27 ?_
    refine zcS (As := [.int (nI nv), .int (nI (nn + 2)), .ref b8]) (rest := []) [1] hg.1.1 ⟨hx, hb, hml, hown, hts⟩ (c_J6_getChars_ba4f3_d2 hg l D cy b8 bx mm nn nv (by first | assumption | omega) (by first | assumption | omega) (by first | assumption | omega) (by first | assumption | omega)) (va_cwS 3 hts gJ5_append_c97b9_J6_getChars_ba4f3 rfl rfl rfl (by decide +kernel) ⟨Nat.le_of_ble_eq_true rfl, Nat.le_of_ble_eq_true rfl⟩) hG hK hP hD hS hA rfl rfl (Eq.trans (b := [b8]) rfl rfl)  rfl hl.1 rfl (Nat.le_of_ble_eq_true rfl) dJ5_append_c97b9_30 ⟨Nat.zero_le _, Nat.zero_le _⟩ (fun H locs hP hD hS => ?_)
    have hP : va_P D vwCl [(o8, .inr (1, [.ref b8, .int 0, .int ml, .int (nI nn)])), (b8, .inl (cy 1, mm, .inl (upd (upd bx (nn + 1) (nI (48 + nv % 10))) (nn + 0) (nI (48 + nv / 10)))))] H := hP
    have hD : va_D A [(o8, .inr (1, [.ref b8, .int 0, .int ml, .int (nI nn)])), (b8, .inl (cy 1, mm, .inl (upd (upd bx (nn + 1) (nI (48 + nv % 10))) (nn + 0) (nI (48 + nv / 10)))))] := hD
    refine lv_pop hx hb dJ5_append_c97b9_33 rfl ?_
    refine lv_goto (tgt := 48) hx hb dJ5_append_c97b9_34 (by decide) ?_
    refine lv_aload_n hx hb dJ5_append_c97b9_48 rfl (lv_at hl 2 rfl) ?_
    refine lv_iload_n hx hb dJ5_append_c97b9_49 rfl (lv_at hl 0 rfl) ?_
    refine va_put (D := D) (ci := 1) (v := .int (nI (nn + 2))) (ty := .int) (C := RJ4) (T := TJ4) (N := 4) hx hb hts in_RJ4 tyJ4 tyJ4_ok nmJ4 hown hK hP hD hS 0 rfl rfl 3 (by decide) (hts _ (List.mem_of_getElem? (i := 1) rfl)) (fun _ h9 => h9) rfl (by decide +kernel) rfl rfl (Nat.le_of_ble_eq_true rfl) dJ5_append_c97b9_50 (fun H locs hP hD hS => ?_)
    have hP : va_P D vwCl [(o8, .inr (1, [.ref b8, .int 0, .int ml, .int (nI (nn + 2))])), (b8, .inl (cy 1, mm, .inl (upd (upd bx (nn + 1) (nI (48 + nv % 10))) (nn + 0) (nI (48 + nv / 10)))))] H := hP
    have hD : va_D A [(o8, .inr (1, [.ref b8, .int 0, .int ml, .int (nI (nn + 2))])), (b8, .inl (cy 1, mm, .inl (upd (upd bx (nn + 1) (nI (48 + nv % 10))) (nn + 0) (nI (48 + nv / 10)))))] := hD
    refine lv_aload_n hx hb dJ5_append_c97b9_53 rfl (lv_at hl 2 rfl) ?_
    exact zaret hend hx hb hr (Or.inl ⟨_, rfl⟩) hlk hK hP hD hS dJ5_append_c97b9_54 rfl rfl

abbrev rmJ4_append_bf812_d2 : Room := { frames := 2, cells := 0, slots := 0, locals := 49 }
set_option maxHeartbeats 4000000 in
set_option maxRecDepth 100000 in
theorem c_J4_append_bf812_d2 {G : zG} (hg : zGJ G) (l : Launch) (D : va_G) (cy : Nat → ClassId) (o8 : Nat) (b8 : Nat) (ml : Int32) (nn : Nat) (bx : Nat → Int32) (mm : Nat) (nv : Nat) (hlo : 10 ≤ nv) (hhi : nv < 100) (hdm : nn + 2 ≤ mm) (hmm : mm ≤ 100) : zM G D vwCl (zT cy) l yJ4_append_bf812 wsJ4_append_bf812 rmJ4_append_bf812_d2 [.ref o8, .int (nI nv)] [(o8, .inr (1, [.ref b8, .int 0, .int ml, .int (nI nn)])), (b8, .inl (cy 1, mm, .inl bx))] (some (.ref o8)) [(o8, .inr (1, [.ref b8, .int 0, .int ml, .int (nI (nn + 2))])), (b8, .inl (cy 1, mm, .inl (upd (upd bx (nn + 1) (nI (48 + nv % 10))) (nn + 0) (nI (48 + nv / 10)))))] := by
  refine zM_of (cc := cJ4_append_bf812) (maxL := 2) (ret := (some (.object "java/lang/StringBuilder"))) (by decide) rfl (Nat.le_of_ble_eq_true rfl) ?_
  intro p e s m below meth c A Q hend hx hb hml hr hts hown hlk hG hK hP hD hA hS ls hl
  have hown : s.vm.findClass RJ4 = some m.cls := hown
  have hl : lv_has ls 2 [(0, .ref o8), (1, .int (nI nv))] := hl
  refine lv_aload_n hx hb dJ4_append_bf812_0 rfl (lv_at hl 0 rfl) ?_
  refine lv_iload_n hx hb dJ4_append_bf812_1 rfl (lv_at hl 1 rfl) ?_
  refine zcSU (As := [.int (nI nv)]) (rest := []) [0, 1] 0 hg.1.1 ⟨hx, hb, hml, hown, hts⟩ (c_J5_append_c97b9_d2 hg l D cy o8 b8 ml nn bx mm nv (by first | assumption | omega) (by first | assumption | omega) (by first | assumption | omega) (by first | assumption | omega)) (va_cwSU 1 hts gJ4_append_bf812_J5_append_c97b9_s53 rfl rfl rfl (by decide +kernel) ⟨Nat.le_of_ble_eq_true rfl, Nat.le_of_ble_eq_true rfl⟩) hG hK hP hD hS hA rfl rfl (Eq.trans (b := [o8, b8]) rfl rfl) rfl rfl rfl hl.1 rfl (Nat.le_of_ble_eq_true rfl) dJ4_append_bf812_2 ⟨Nat.zero_le _, Nat.zero_le _⟩ (fun H locs hP hD hS => ?_)
  have hP : va_P D vwCl [(o8, .inr (1, [.ref b8, .int 0, .int ml, .int (nI (nn + 2))])), (b8, .inl (cy 1, mm, .inl (upd (upd bx (nn + 1) (nI (48 + nv % 10))) (nn + 0) (nI (48 + nv / 10)))))] H := hP
  have hD : va_D A [(o8, .inr (1, [.ref b8, .int 0, .int ml, .int (nI (nn + 2))])), (b8, .inl (cy 1, mm, .inl (upd (upd bx (nn + 1) (nI (48 + nv % 10))) (nn + 0) (nI (48 + nv / 10)))))] := hD
  refine lv_pop hx hb dJ4_append_bf812_5 rfl ?_
  refine lv_aload_n hx hb dJ4_append_bf812_6 rfl (lv_at hl 0 rfl) ?_
  exact zaret hend hx hb hr (Or.inl ⟨_, rfl⟩) hlk hK hP hD hS dJ4_append_bf812_7 rfl rfl

abbrev rmJ6_stringSize_0f7a4_d3 : Room := { frames := 0, cells := 0, slots := 0, locals := 0 }
set_option maxHeartbeats 4000000 in
set_option maxRecDepth 100000 in
theorem c_J6_stringSize_0f7a4_d3 {G : zG} (hg : zGN G) (l : Launch) (D : va_G) (cy : Nat → ClassId) (nv : Nat) (hlo : 100 ≤ nv) (hhi : nv < 1000) : zM G D vwCl (zT cy) l yJ6_stringSize_0f7a4 wsJ6_stringSize_0f7a4 rmJ6_stringSize_0f7a4_d3 [.int (nI nv)] [] (some (.int 3)) [] := by
  refine zM_of (cc := cJ6_stringSize_0f7a4) (maxL := 4) (ret := (some .int)) (by decide) rfl (Nat.le_of_ble_eq_true rfl) ?_
  intro p e s m below meth c A Q hend hx hb hml hr hts hown hlk hG hK hP hD hA hS ls hl
  have hown : s.vm.findClass RJ6 = some m.cls := hown
  have hl : lv_has ls 4 [(0, .int (nI nv))] := hl
  refine lv_iconst (v := 1) hx hb dJ6_stringSize_0f7a4_0 (by decide) ?_
  refine lv_istore_n (lv' := [(1, .int 1), (0, .int (nI nv))]) hx hb dJ6_stringSize_0f7a4_1 rfl hl (by decide) rfl (fun ls hl => ?_)
  refine lv_iload_n hx hb dJ6_stringSize_0f7a4_2 rfl (lv_at hl 1 rfl) ?_
  refine lv_if_lt (tgt := 11) hx hb dJ6_stringSize_0f7a4_3 (by decide) (fun c_1 => ?_) (fun c_1 => ?_)
  · exact absurd c_1 (nI_pos (by omega))
  · refine lv_iconst (v := 0) hx hb dJ6_stringSize_0f7a4_6 (by decide) ?_
    refine lv_istore_n (lv' := [(1, .int 0), (0, .int (nI nv))]) hx hb dJ6_stringSize_0f7a4_7 rfl hl (by decide) rfl (fun ls hl => ?_)
    refine lv_iload_n hx hb dJ6_stringSize_0f7a4_8 rfl (lv_at hl 1 rfl) ?_
    refine lv_ineg hx hb dJ6_stringSize_0f7a4_9 ?_
    refine lv_istore_n (lv' := [(0, .int (-(nI nv))), (1, .int 0)]) hx hb dJ6_stringSize_0f7a4_10 rfl hl (by decide) rfl (fun ls hl => ?_)
    refine lv_bipush (v := (-10)) hx hb dJ6_stringSize_0f7a4_11 (by decide) ?_
    refine lv_istore_n (lv' := [(2, .int (-10)), (0, .int (-(nI nv))), (1, .int 0)]) hx hb dJ6_stringSize_0f7a4_13 rfl hl (by decide) rfl (fun ls hl => ?_)
    refine lv_iconst (v := 1) hx hb dJ6_stringSize_0f7a4_14 (by decide) ?_
    refine lv_istore_n (lv' := [(3, .int 1), (2, .int (-10)), (0, .int (-(nI nv))), (1, .int 0)]) hx hb dJ6_stringSize_0f7a4_15 rfl hl (by decide) rfl (fun ls hl => ?_)
    refine lv_iload_n hx hb dJ6_stringSize_0f7a4_16 rfl (lv_at hl 0 rfl) ?_
    refine lv_bipush (v := 10) hx hb dJ6_stringSize_0f7a4_17 (by decide) ?_
    refine lv_icmp_ge (tgt := 42) hx hb dJ6_stringSize_0f7a4_19 (by decide) (fun c_2 => ?_) (fun c_2 => ?_)
    · exact absurd c_2 (by decide)
    · refine lv_iload_n hx hb dJ6_stringSize_0f7a4_22 rfl (lv_at hl 2 rfl) ?_
      refine lv_iload_n hx hb dJ6_stringSize_0f7a4_23 rfl (lv_at hl 1 rfl) ?_
      refine lv_icmp_le (tgt := 31) hx hb dJ6_stringSize_0f7a4_24 (by decide) (fun c_3 => ?_) (fun c_3 => ?_)
      · refine lv_bipush (v := 10) hx hb dJ6_stringSize_0f7a4_31 (by decide) ?_
        refine lv_iload_n hx hb dJ6_stringSize_0f7a4_33 rfl (lv_at hl 1 rfl) ?_
        refine lv_imul hx hb dJ6_stringSize_0f7a4_34 ?_
        refine z_top (y := (-100)) (by decide) ?_
        refine lv_istore_n (lv' := [(2, .int (-100)), (3, .int 1), (0, .int (-(nI nv))), (1, .int 0)]) hx hb dJ6_stringSize_0f7a4_35 rfl hl (by decide) rfl (fun ls hl => ?_)
        refine lv_iinc (v := 2) (lv' := [(3, .int 2), (2, .int (-100)), (0, .int (-(nI nv))), (1, .int 0)]) hx hb dJ6_stringSize_0f7a4_36 hl (k := 1) rfl (by decide) (by decide) rfl (fun ls hl => ?_)
        refine lv_goto (tgt := 16) hx hb dJ6_stringSize_0f7a4_39 (by decide) ?_
        refine lv_iload_n hx hb dJ6_stringSize_0f7a4_16 rfl (lv_at hl 0 rfl) ?_
        refine lv_bipush (v := 10) hx hb dJ6_stringSize_0f7a4_17 (by decide) ?_
        refine lv_icmp_ge (tgt := 42) hx hb dJ6_stringSize_0f7a4_19 (by decide) (fun c_4 => ?_) (fun c_4 => ?_)
        · exact absurd c_4 (by decide)
        · refine lv_iload_n hx hb dJ6_stringSize_0f7a4_22 rfl (lv_at hl 2 rfl) ?_
          refine lv_iload_n hx hb dJ6_stringSize_0f7a4_23 rfl (lv_at hl 1 rfl) ?_
          refine lv_icmp_le (tgt := 31) hx hb dJ6_stringSize_0f7a4_24 (by decide) (fun c_5 => ?_) (fun c_5 => ?_)
          · refine lv_bipush (v := 10) hx hb dJ6_stringSize_0f7a4_31 (by decide) ?_
            refine lv_iload_n hx hb dJ6_stringSize_0f7a4_33 rfl (lv_at hl 1 rfl) ?_
            refine lv_imul hx hb dJ6_stringSize_0f7a4_34 ?_
            refine z_top (y := (-1000)) (by decide) ?_
            refine lv_istore_n (lv' := [(2, .int (-1000)), (3, .int 2), (0, .int (-(nI nv))), (1, .int 0)]) hx hb dJ6_stringSize_0f7a4_35 rfl hl (by decide) rfl (fun ls hl => ?_)
            refine lv_iinc (v := 3) (lv' := [(3, .int 3), (2, .int (-1000)), (0, .int (-(nI nv))), (1, .int 0)]) hx hb dJ6_stringSize_0f7a4_36 hl (k := 1) rfl (by decide) (by decide) rfl (fun ls hl => ?_)
            refine lv_goto (tgt := 16) hx hb dJ6_stringSize_0f7a4_39 (by decide) ?_
            refine lv_iload_n hx hb dJ6_stringSize_0f7a4_16 rfl (lv_at hl 0 rfl) ?_
            refine lv_bipush (v := 10) hx hb dJ6_stringSize_0f7a4_17 (by decide) ?_
            refine lv_icmp_ge (tgt := 42) hx hb dJ6_stringSize_0f7a4_19 (by decide) (fun c_6 => ?_) (fun c_6 => ?_)
            · exact absurd c_6 (by decide)
            · refine lv_iload_n hx hb dJ6_stringSize_0f7a4_22 rfl (lv_at hl 2 rfl) ?_
              refine lv_iload_n hx hb dJ6_stringSize_0f7a4_23 rfl (lv_at hl 1 rfl) ?_
              refine lv_icmp_le (tgt := 31) hx hb dJ6_stringSize_0f7a4_24 (by decide) (fun c_7 => ?_) (fun c_7 => ?_)
              · exact absurd ((zneg_le (a := nv) (b := 1000) (by omega) (by omega)).mp c_7) (by omega)
              · refine lv_iload_n hx hb dJ6_stringSize_0f7a4_27 rfl (lv_at hl 0 rfl) ?_
                refine lv_iload_n hx hb dJ6_stringSize_0f7a4_28 rfl (lv_at hl 3 rfl) ?_
                refine lv_iadd hx hb dJ6_stringSize_0f7a4_29 ?_
                refine z_top (y := 3) (by decide) ?_
                exact ziret hend hx hb hr hlk hK hP hD hS dJ6_stringSize_0f7a4_30 rfl rfl
          · exact absurd ((zneg_le (a := nv) (b := 100) (by omega) (by omega)).mpr (by omega)) c_5
      · exact absurd ((zneg_le (a := nv) (b := 10) (by omega) (by omega)).mpr (by omega)) c_3

abbrev rmJ6_getChars_ba4f3_d3 : Room := { frames := 0, cells := 0, slots := 0, locals := 0 }
set_option maxHeartbeats 4000000 in
set_option maxRecDepth 100000 in
theorem c_J6_getChars_ba4f3_d3 {G : zG} (hg : zGJ G) (l : Launch) (D : va_G) (cy : Nat → ClassId) (b8 : Nat) (bx : Nat → Int32) (mm : Nat) (nn : Nat) (nv : Nat) (hlo : 100 ≤ nv) (hhi : nv < 1000) (hdm : nn + 3 ≤ mm) (hmm : mm ≤ 100) : zM G D vwCl (zT cy) l yJ6_getChars_ba4f3 wsJ6_getChars_ba4f3 rmJ6_getChars_ba4f3_d3 [.int (nI nv), .int (nI (nn + 3)), .ref b8] [(b8, .inl (cy 1, mm, .inl bx))] (some (.int (nI (nn + 0)))) [(b8, .inl (cy 1, mm, .inl (upd (upd (upd bx (nn + 2) (nI (48 + (nv % 100) % 10))) (nn + 1) (nI (48 + (nv % 100) / 10))) (nn + 0) (nI (48 + (nv / 100) % 10)))))] := by
  refine zM_of (cc := cJ6_getChars_ba4f3) (maxL := 7) (ret := (some .int)) (by decide) rfl (Nat.le_of_ble_eq_true rfl) ?_
  intro p e s m below meth c A Q hend hx hb hml hr hts hown hlk hG hK hP hD hA hS ls hl
  have hown : s.vm.findClass RJ6 = some m.cls := hown
  have hl : lv_has ls 7 [(0, .int (nI nv)), (1, .int (nI (nn + 3))), (2, .ref b8)] := hl
  obtain ⟨tO, hztO, htO⟩ := (hg.2 A s hG).2.2.1
  obtain ⟨tT, hztT, htT⟩ := (hg.2 A s hG).2.2.2
  refine lv_iload_n hx hb dJ6_getChars_ba4f3_0 rfl (lv_at hl 1 rfl) ?_
  refine lv_istore (lv' := [(5, .int (nI (nn + 3))), (0, .int (nI nv)), (1, .int (nI (nn + 3))), (2, .ref b8)]) hx hb dJ6_getChars_ba4f3_1 hl (by decide) rfl (fun ls hl => ?_)
  refine lv_iload_n hx hb dJ6_getChars_ba4f3_3 rfl (lv_at hl 1 rfl) ?_
  refine lv_if_ge (tgt := 11) hx hb dJ6_getChars_ba4f3_4 (by decide) (fun c_1 => ?_) (fun c_1 => ?_)
  · refine lv_iconst (v := 0) hx hb dJ6_getChars_ba4f3_11 (by decide) ?_
    refine lv_istore (lv' := [(6, .int 0), (5, .int (nI (nn + 3))), (0, .int (nI nv)), (1, .int (nI (nn + 3))), (2, .ref b8)]) hx hb dJ6_getChars_ba4f3_12 hl (by decide) rfl (fun ls hl => ?_)
    refine lv_iload hx hb dJ6_getChars_ba4f3_14 (lv_at hl 0 rfl) ?_
    refine lv_if_ne (tgt := 22) hx hb dJ6_getChars_ba4f3_16 (by decide) (fun c_2 => ?_) (fun c_2 => ?_)
    · exact absurd c_2 (by decide)
    · refine lv_iload_n hx hb dJ6_getChars_ba4f3_19 rfl (lv_at hl 2 rfl) ?_
      refine lv_ineg hx hb dJ6_getChars_ba4f3_20 ?_
      refine lv_istore_n (lv' := [(0, .int (-(nI nv))), (6, .int 0), (5, .int (nI (nn + 3))), (1, .int (nI (nn + 3))), (2, .ref b8)]) hx hb dJ6_getChars_ba4f3_21 rfl hl (by decide) rfl (fun ls hl => ?_)
      refine lv_iload_n hx hb dJ6_getChars_ba4f3_22 rfl (lv_at hl 0 rfl) ?_
      refine lv_bipush (v := (-100)) hx hb dJ6_getChars_ba4f3_23 (by decide) ?_
      refine lv_icmp_gt (tgt := 72) hx hb dJ6_getChars_ba4f3_25 (by decide) (fun c_3 => ?_) (fun c_3 => ?_)
      · exact absurd ((sb_nlt (a := 100) (b := nv) (by omega) (by omega)).mp c_3) (by omega)
      · refine lv_iload_n hx hb dJ6_getChars_ba4f3_28 rfl (lv_at hl 0 rfl) ?_
        refine lv_bipush (v := 100) hx hb dJ6_getChars_ba4f3_29 (by decide) ?_
        refine lv_idiv hx hb dJ6_getChars_ba4f3_31 (by decide) ?_
        refine z_top (y := -(nI (nv / 100))) (sb_ndiv (by omega)) ?_
        refine lv_istore_n (lv' := [(3, .int (-(nI (nv / 100)))), (0, .int (-(nI nv))), (6, .int 0), (5, .int (nI (nn + 3))), (1, .int (nI (nn + 3))), (2, .ref b8)]) hx hb dJ6_getChars_ba4f3_32 rfl hl (by decide) rfl (fun ls hl => ?_)
        refine lv_iload_n hx hb dJ6_getChars_ba4f3_33 rfl (lv_at hl 0 rfl) ?_
        refine lv_bipush (v := 100) hx hb dJ6_getChars_ba4f3_34 (by decide) ?_
        refine lv_imul hx hb dJ6_getChars_ba4f3_36 ?_
        refine lv_iload_n hx hb dJ6_getChars_ba4f3_37 rfl (lv_at hl 1 rfl) ?_
        refine lv_isub hx hb dJ6_getChars_ba4f3_38 ?_
        refine z_top (y := nI (nv % 100)) (sb_nrem (by omega)) ?_
        refine lv_istore (lv' := [(4, .int (nI (nv % 100))), (3, .int (-(nI (nv / 100)))), (0, .int (-(nI nv))), (6, .int 0), (5, .int (nI (nn + 3))), (1, .int (nI (nn + 3))), (2, .ref b8)]) hx hb dJ6_getChars_ba4f3_39 hl (by decide) rfl (fun ls hl => ?_)
        refine lv_iload_n hx hb dJ6_getChars_ba4f3_41 rfl (lv_at hl 1 rfl) ?_
        refine lv_istore_n (lv' := [(0, .int (-(nI (nv / 100)))), (4, .int (nI (nv % 100))), (3, .int (-(nI (nv / 100)))), (6, .int 0), (5, .int (nI (nn + 3))), (1, .int (nI (nn + 3))), (2, .ref b8)]) hx hb dJ6_getChars_ba4f3_42 rfl hl (by decide) rfl (fun ls hl => ?_)
        refine lv_aload_n hx hb dJ6_getChars_ba4f3_43 rfl (lv_at hl 6 rfl) ?_
        refine lv_iinc (v := nI (nn + 2)) (lv' := [(5, .int (nI (nn + 2))), (0, .int (-(nI (nv / 100)))), (4, .int (nI (nv % 100))), (3, .int (-(nI (nv / 100)))), (6, .int 0), (1, .int (nI (nn + 3))), (2, .ref b8)]) hx hb dJ6_getChars_ba4f3_44 hl (k := 4) rfl (zdec1 (nn + 2)) (by decide) rfl (fun ls hl => ?_)
        refine lv_iload hx hb dJ6_getChars_ba4f3_47 (lv_at hl 0 rfl) ?_
        refine va_gets hx hb hztO hS hown (hts _ (List.mem_of_getElem? (i := 1) rfl)) (fun _ h9 => h9) dJ6_getChars_ba4f3_49 ?_
        refine lv_iload hx hb dJ6_getChars_ba4f3_52 (lv_at hl 2 rfl) ?_
        refine va_tb (v := .int (zdg1 (nv % 100))) hx hb htO hS (vp_in_nI (by omega) (by decide)) (by rw [nI_clamp (by omega)]) dJ6_getChars_ba4f3_54 ?_
        refine zbast (x' := nI (48 + (nv % 100) % 10)) 0 (nn + 2) hx hb hK hP hD hS rfl rfl (by omega) (by omega) (zby1 (by omega)) dJ6_getChars_ba4f3_55 (fun H locs hP hD hS => ?_)
        have hP : va_P D vwCl [(b8, .inl (cy 1, mm, .inl (upd bx (nn + 2) (nI (48 + (nv % 100) % 10)))))] H := hP
        have hD : va_D A [(b8, .inl (cy 1, mm, .inl (upd bx (nn + 2) (nI (48 + (nv % 100) % 10)))))] := hD
        refine lv_aload_n hx hb dJ6_getChars_ba4f3_56 rfl (lv_at hl 6 rfl) ?_
        refine lv_iinc (v := nI (nn + 1)) (lv' := [(5, .int (nI (nn + 1))), (0, .int (-(nI (nv / 100)))), (4, .int (nI (nv % 100))), (3, .int (-(nI (nv / 100)))), (6, .int 0), (1, .int (nI (nn + 3))), (2, .ref b8)]) hx hb dJ6_getChars_ba4f3_57 hl (k := 0) rfl (zdec1 (nn + 1)) (by decide) rfl (fun ls hl => ?_)
        refine lv_iload hx hb dJ6_getChars_ba4f3_60 (lv_at hl 0 rfl) ?_
        refine va_gets hx hb hztT hS hown (hts _ (List.mem_of_getElem? (i := 2) rfl)) (fun _ h9 => h9) dJ6_getChars_ba4f3_62 ?_
        refine lv_iload hx hb dJ6_getChars_ba4f3_65 (lv_at hl 2 rfl) ?_
        refine va_tb (v := .int (zdg2 (nv % 100))) hx hb htT hS (vp_in_nI (by omega) (by decide)) (by rw [nI_clamp (by omega)]) dJ6_getChars_ba4f3_67 ?_
        refine zbast (x' := nI (48 + (nv % 100) / 10)) 0 (nn + 1) hx hb hK hP hD hS rfl rfl (by omega) (by omega) (zby2 (by omega)) dJ6_getChars_ba4f3_68 (fun H locs hP hD hS => ?_)
        have hP : va_P D vwCl [(b8, .inl (cy 1, mm, .inl (upd (upd bx (nn + 2) (nI (48 + (nv % 100) % 10))) (nn + 1) (nI (48 + (nv % 100) / 10)))))] H := hP
        have hD : va_D A [(b8, .inl (cy 1, mm, .inl (upd (upd bx (nn + 2) (nI (48 + (nv % 100) % 10))) (nn + 1) (nI (48 + (nv % 100) / 10)))))] := hD
        refine lv_goto (tgt := 22) hx hb dJ6_getChars_ba4f3_69 (by decide) ?_
        refine lv_iload_n hx hb dJ6_getChars_ba4f3_22 rfl (lv_at hl 1 rfl) ?_
        refine lv_bipush (v := (-100)) hx hb dJ6_getChars_ba4f3_23 (by decide) ?_
        refine lv_icmp_gt (tgt := 72) hx hb dJ6_getChars_ba4f3_25 (by decide) (fun c_4 => ?_) (fun c_4 => ?_)
        · refine lv_aload_n hx hb dJ6_getChars_ba4f3_72 rfl (lv_at hl 6 rfl) ?_
          refine lv_iinc (v := nI (nn + 0)) (lv' := [(5, .int (nI (nn + 0))), (0, .int (-(nI (nv / 100)))), (4, .int (nI (nv % 100))), (3, .int (-(nI (nv / 100)))), (6, .int 0), (1, .int (nI (nn + 3))), (2, .ref b8)]) hx hb dJ6_getChars_ba4f3_73 hl (k := 0) rfl (zdec1 (nn + 0)) (by decide) rfl (fun ls hl => ?_)
          refine lv_iload hx hb dJ6_getChars_ba4f3_76 (lv_at hl 0 rfl) ?_
          refine va_gets hx hb hztO hS hown (hts _ (List.mem_of_getElem? (i := 1) rfl)) (fun _ h9 => h9) dJ6_getChars_ba4f3_78 ?_
          refine lv_iload_n hx hb dJ6_getChars_ba4f3_81 rfl (lv_at hl 1 rfl) ?_
          refine lv_ineg hx hb dJ6_getChars_ba4f3_82 ?_
          refine z_top (y := nI (nv / 100)) (Int32.neg_neg) ?_
          refine va_tb (v := .int (zdg1 (nv / 100))) hx hb htO hS (vp_in_nI (by omega) (by decide)) (by rw [nI_clamp (by omega)]) dJ6_getChars_ba4f3_83 ?_
          refine zbast (x' := nI (48 + (nv / 100) % 10)) 0 (nn + 0) hx hb hK hP hD hS rfl rfl (by omega) (by omega) (zby1 (by omega)) dJ6_getChars_ba4f3_84 (fun H locs hP hD hS => ?_)
          have hP : va_P D vwCl [(b8, .inl (cy 1, mm, .inl (upd (upd (upd bx (nn + 2) (nI (48 + (nv % 100) % 10))) (nn + 1) (nI (48 + (nv % 100) / 10))) (nn + 0) (nI (48 + (nv / 100) % 10)))))] H := hP
          have hD : va_D A [(b8, .inl (cy 1, mm, .inl (upd (upd (upd bx (nn + 2) (nI (48 + (nv % 100) % 10))) (nn + 1) (nI (48 + (nv % 100) / 10))) (nn + 0) (nI (48 + (nv / 100) % 10)))))] := hD
          refine lv_iload_n hx hb dJ6_getChars_ba4f3_85 rfl (lv_at hl 1 rfl) ?_
          refine lv_bipush (v := (-9)) hx hb dJ6_getChars_ba4f3_86 (by decide) ?_
          refine lv_icmp_ge (tgt := 104) hx hb dJ6_getChars_ba4f3_88 (by decide) (fun c_5 => ?_) (fun c_5 => ?_)
          · refine lv_iload hx hb dJ6_getChars_ba4f3_104 (lv_at hl 4 rfl) ?_
            refine lv_if_eq (tgt := 118) hx hb dJ6_getChars_ba4f3_106 (by decide) (fun c_6 => ?_) (fun c_6 => ?_)
            · refine lv_iload hx hb dJ6_getChars_ba4f3_118 (lv_at hl 0 rfl) ?_
              exact ziret hend hx hb hr hlk hK hP hD hS dJ6_getChars_ba4f3_120 rfl rfl
            · exact absurd c_6 (by decide)
          · exact absurd ((sb_nle (a := 9) (b := nv / 100) (by omega) (by omega)).mpr (by omega)) c_5
        · exact absurd ((sb_nlt (a := 100) (b := nv / 100) (by omega) (by omega)).mpr (by omega)) c_4
  · exact absurd (nI_pos' (by omega)) c_1

abbrev rmJ5_append_c97b9_d3 : Room := { frames := 1, cells := 0, slots := 0, locals := 26 }
set_option maxHeartbeats 4000000 in
set_option maxRecDepth 100000 in
theorem c_J5_append_c97b9_d3 {G : zG} (hg : zGJ G) (l : Launch) (D : va_G) (cy : Nat → ClassId) (o8 : Nat) (b8 : Nat) (ml : Int32) (nn : Nat) (bx : Nat → Int32) (mm : Nat) (nv : Nat) (hlo : 100 ≤ nv) (hhi : nv < 1000) (hdm : nn + 3 ≤ mm) (hmm : mm ≤ 100) : zM G D vwCl (zT cy) l yJ5_append_c97b9 wsJ5_append_c97b9 rmJ5_append_c97b9_d3 [.ref o8, .int (nI nv)] [(o8, .inr (1, [.ref b8, .int 0, .int ml, .int (nI nn)])), (b8, .inl (cy 1, mm, .inl bx))] (some (.ref o8)) [(o8, .inr (1, [.ref b8, .int 0, .int ml, .int (nI (nn + 3))])), (b8, .inl (cy 1, mm, .inl (upd (upd (upd bx (nn + 2) (nI (48 + (nv % 100) % 10))) (nn + 1) (nI (48 + (nv % 100) / 10))) (nn + 0) (nI (48 + (nv / 100) % 10)))))] := by
  refine zM_of (cc := cJ5_append_c97b9) (maxL := 4) (ret := (some (.object "java/lang/AbstractStringBuilder"))) (by decide) rfl (Nat.le_of_ble_eq_true rfl) ?_
  intro p e s m below meth c A Q hend hx hb hml hr hts hown hlk hG hK hP hD hA hS ls hl
  have hown : s.vm.findClass RJ5 = some m.cls := hown
  have in_RJ4 : ∀ w ∈ u_ws RJ4 TJ4 4, w ∈ wsJ5_append_c97b9 := by decide +kernel
  have hl : lv_has ls 4 [(0, .ref o8), (1, .int (nI nv))] := hl
  refine lv_aload_n hx hb dJ5_append_c97b9_0 rfl (lv_at hl 0 rfl) ?_
  refine va_get (D := D) (ci := 1) (v := .int (nI nn)) (C := RJ4) (T := TJ4) (N := 4) hx hb hts in_RJ4 hown hK hP 0 rfl rfl 3 (by decide) (hts _ (List.mem_of_getElem? (i := 1) rfl)) (fun _ h9 => h9) rfl dJ5_append_c97b9_1 ?_
  refine lv_istore_n (lv' := [(2, .int (nI nn)), (0, .ref o8), (1, .int (nI nv))]) hx hb dJ5_append_c97b9_4 rfl hl (by decide) rfl (fun ls hl => ?_)
  refine lv_iload_n hx hb dJ5_append_c97b9_5 rfl (lv_at hl 0 rfl) ?_
  refine lv_iload_n hx hb dJ5_append_c97b9_6 rfl (lv_at hl 2 rfl) ?_
  refine zcS (As := [.int (nI nv)]) (rest := [.int (nI nn)]) [] hg.1.1 ⟨hx, hb, hml, hown, hts⟩ (c_J6_stringSize_0f7a4_d3 hg.1 l D cy nv (by first | assumption | omega) (by first | assumption | omega)) (va_cwS 1 hts gJ5_append_c97b9_J6_stringSize_0f7a4 rfl rfl rfl (by decide +kernel) ⟨Nat.le_of_ble_eq_true rfl, Nat.le_of_ble_eq_true rfl⟩) hG hK hP hD hS hA rfl rfl rfl  rfl hl.1 rfl (Nat.le_of_ble_eq_true rfl) dJ5_append_c97b9_7 ⟨Nat.zero_le _, Nat.zero_le _⟩ (fun H locs hP hD hS => ?_)
  have hP : va_P D vwCl [(o8, .inr (1, [.ref b8, .int 0, .int ml, .int (nI nn)])), (b8, .inl (cy 1, mm, .inl bx))] H := hP
  have hD : va_D A [(o8, .inr (1, [.ref b8, .int 0, .int ml, .int (nI nn)])), (b8, .inl (cy 1, mm, .inl bx))] := hD
  refine lv_iadd hx hb dJ5_append_c97b9_10 ?_
  refine z_top (y := nI (nn + 3)) (nI_add nn 3) ?_
  refine lv_istore_n (lv' := [(3, .int (nI (nn + 3))), (2, .int (nI nn)), (0, .ref o8), (1, .int (nI nv))]) hx hb dJ5_append_c97b9_11 rfl hl (by decide) rfl (fun ls hl => ?_)
  refine lv_aload_n hx hb dJ5_append_c97b9_12 rfl (lv_at hl 2 rfl) ?_
  refine lv_iload_n hx hb dJ5_append_c97b9_13 rfl (lv_at hl 0 rfl) ?_
  refine zcU (As := [.int (nI (nn + 3))]) (rest := []) [0, 1] 0 hg.1.1 ⟨hx, hb, hml, hown, hts⟩ (c_J5_ensureCapacityInternal_d00df_in hg l D cy o8 b8 ml nn bx mm (nn + 3) hdm (by first | assumption | omega)) (va_cwU 1 hts gJ5_append_c97b9_J5_ensureCapacityInternal_d00df_u100J4 rfl rfl rfl rfl (by decide +kernel) ⟨Nat.le_of_ble_eq_true rfl, Nat.le_of_ble_eq_true rfl⟩) hG hK hP hD hS hA rfl rfl rfl rfl rfl rfl hl.1 rfl (Nat.le_of_ble_eq_true rfl) dJ5_append_c97b9_14 ⟨Nat.zero_le _, Nat.zero_le _⟩ (fun H locs hP hD hS => ?_)
  have hP : va_P D vwCl [(o8, .inr (1, [.ref b8, .int 0, .int ml, .int (nI nn)])), (b8, .inl (cy 1, mm, .inl bx))] H := hP
  have hD : va_D A [(o8, .inr (1, [.ref b8, .int 0, .int ml, .int (nI nn)])), (b8, .inl (cy 1, mm, .inl bx))] := hD
  refine lv_aload_n hx hb dJ5_append_c97b9_17 rfl (lv_at hl 2 rfl) ?_
  refine zcU (As := []) (rest := []) [0] 0 hg.1.1 ⟨hx, hb, hml, hown, hts⟩ (c_J5_isLatin1_aae02 hg l D cy o8 b8 ml nn) (va_cwU 0 hts gJ5_append_c97b9_J5_isLatin1_aae02_u83J4 rfl rfl rfl rfl (by decide +kernel) ⟨Nat.le_of_ble_eq_true rfl, Nat.le_of_ble_eq_true rfl⟩) hG hK hP hD hS hA rfl rfl rfl rfl rfl rfl hl.1 rfl (Nat.le_of_ble_eq_true rfl) dJ5_append_c97b9_18 ⟨Nat.zero_le _, Nat.zero_le _⟩ (fun H locs hP hD hS => ?_)
  have hP : va_P D vwCl [(o8, .inr (1, [.ref b8, .int 0, .int ml, .int (nI nn)])), (b8, .inl (cy 1, mm, .inl bx))] H := hP
  have hD : va_D A [(o8, .inr (1, [.ref b8, .int 0, .int ml, .int (nI nn)])), (b8, .inl (cy 1, mm, .inl bx))] := hD
  refine lv_if_eq (tgt := 37) hx hb dJ5_append_c97b9_21 (by decide) (fun c_1 => ?_) (fun c_1 => ?_)
  · exact absurd c_1 (by decide)
  · refine lv_iload_n hx hb dJ5_append_c97b9_24 rfl (lv_at hl 3 rfl) ?_
    refine lv_iload_n hx hb dJ5_append_c97b9_25 rfl (lv_at hl 0 rfl) ?_
    refine lv_aload_n hx hb dJ5_append_c97b9_26 rfl (lv_at hl 2 rfl) ?_
    refine va_get (D := D) (ci := 1) (v := .ref b8) (C := RJ4) (T := TJ4) (N := 4) hx hb hts in_RJ4 hown hK hP 0 rfl rfl 0 (by decide) (hts _ (List.mem_of_getElem? (i := 2) rfl)) (fun _ h9 => h9) rfl dJ5_append_c97b9_27 ?_
    refine zcS (As := [.int (nI nv), .int (nI (nn + 3)), .ref b8]) (rest := []) [1] hg.1.1 ⟨hx, hb, hml, hown, hts⟩ (c_J6_getChars_ba4f3_d3 hg l D cy b8 bx mm nn nv (by first | assumption | omega) (by first | assumption | omega) (by first | assumption | omega) (by first | assumption | omega)) (va_cwS 3 hts gJ5_append_c97b9_J6_getChars_ba4f3 rfl rfl rfl (by decide +kernel) ⟨Nat.le_of_ble_eq_true rfl, Nat.le_of_ble_eq_true rfl⟩) hG hK hP hD hS hA rfl rfl (Eq.trans (b := [b8]) rfl rfl)  rfl hl.1 rfl (Nat.le_of_ble_eq_true rfl) dJ5_append_c97b9_30 ⟨Nat.zero_le _, Nat.zero_le _⟩ (fun H locs hP hD hS => ?_)
    have hP : va_P D vwCl [(o8, .inr (1, [.ref b8, .int 0, .int ml, .int (nI nn)])), (b8, .inl (cy 1, mm, .inl (upd (upd (upd bx (nn + 2) (nI (48 + (nv % 100) % 10))) (nn + 1) (nI (48 + (nv % 100) / 10))) (nn + 0) (nI (48 + (nv / 100) % 10)))))] H := hP
    have hD : va_D A [(o8, .inr (1, [.ref b8, .int 0, .int ml, .int (nI nn)])), (b8, .inl (cy 1, mm, .inl (upd (upd (upd bx (nn + 2) (nI (48 + (nv % 100) % 10))) (nn + 1) (nI (48 + (nv % 100) / 10))) (nn + 0) (nI (48 + (nv / 100) % 10)))))] := hD
    refine lv_pop hx hb dJ5_append_c97b9_33 rfl ?_
    refine lv_goto (tgt := 48) hx hb dJ5_append_c97b9_34 (by decide) ?_
    refine lv_aload_n hx hb dJ5_append_c97b9_48 rfl (lv_at hl 2 rfl) ?_
    refine lv_iload_n hx hb dJ5_append_c97b9_49 rfl (lv_at hl 0 rfl) ?_
    refine va_put (D := D) (ci := 1) (v := .int (nI (nn + 3))) (ty := .int) (C := RJ4) (T := TJ4) (N := 4) hx hb hts in_RJ4 tyJ4 tyJ4_ok nmJ4 hown hK hP hD hS 0 rfl rfl 3 (by decide) (hts _ (List.mem_of_getElem? (i := 1) rfl)) (fun _ h9 => h9) rfl (by decide +kernel) rfl rfl (Nat.le_of_ble_eq_true rfl) dJ5_append_c97b9_50 (fun H locs hP hD hS => ?_)
    have hP : va_P D vwCl [(o8, .inr (1, [.ref b8, .int 0, .int ml, .int (nI (nn + 3))])), (b8, .inl (cy 1, mm, .inl (upd (upd (upd bx (nn + 2) (nI (48 + (nv % 100) % 10))) (nn + 1) (nI (48 + (nv % 100) / 10))) (nn + 0) (nI (48 + (nv / 100) % 10)))))] H := hP
    have hD : va_D A [(o8, .inr (1, [.ref b8, .int 0, .int ml, .int (nI (nn + 3))])), (b8, .inl (cy 1, mm, .inl (upd (upd (upd bx (nn + 2) (nI (48 + (nv % 100) % 10))) (nn + 1) (nI (48 + (nv % 100) / 10))) (nn + 0) (nI (48 + (nv / 100) % 10)))))] := hD
    refine lv_aload_n hx hb dJ5_append_c97b9_53 rfl (lv_at hl 2 rfl) ?_
    exact zaret hend hx hb hr (Or.inl ⟨_, rfl⟩) hlk hK hP hD hS dJ5_append_c97b9_54 rfl rfl

abbrev rmJ4_append_bf812_d3 : Room := { frames := 2, cells := 0, slots := 0, locals := 49 }
set_option maxHeartbeats 4000000 in
set_option maxRecDepth 100000 in
theorem c_J4_append_bf812_d3 {G : zG} (hg : zGJ G) (l : Launch) (D : va_G) (cy : Nat → ClassId) (o8 : Nat) (b8 : Nat) (ml : Int32) (nn : Nat) (bx : Nat → Int32) (mm : Nat) (nv : Nat) (hlo : 100 ≤ nv) (hhi : nv < 1000) (hdm : nn + 3 ≤ mm) (hmm : mm ≤ 100) : zM G D vwCl (zT cy) l yJ4_append_bf812 wsJ4_append_bf812 rmJ4_append_bf812_d3 [.ref o8, .int (nI nv)] [(o8, .inr (1, [.ref b8, .int 0, .int ml, .int (nI nn)])), (b8, .inl (cy 1, mm, .inl bx))] (some (.ref o8)) [(o8, .inr (1, [.ref b8, .int 0, .int ml, .int (nI (nn + 3))])), (b8, .inl (cy 1, mm, .inl (upd (upd (upd bx (nn + 2) (nI (48 + (nv % 100) % 10))) (nn + 1) (nI (48 + (nv % 100) / 10))) (nn + 0) (nI (48 + (nv / 100) % 10)))))] := by
  refine zM_of (cc := cJ4_append_bf812) (maxL := 2) (ret := (some (.object "java/lang/StringBuilder"))) (by decide) rfl (Nat.le_of_ble_eq_true rfl) ?_
  intro p e s m below meth c A Q hend hx hb hml hr hts hown hlk hG hK hP hD hA hS ls hl
  have hown : s.vm.findClass RJ4 = some m.cls := hown
  have hl : lv_has ls 2 [(0, .ref o8), (1, .int (nI nv))] := hl
  refine lv_aload_n hx hb dJ4_append_bf812_0 rfl (lv_at hl 0 rfl) ?_
  refine lv_iload_n hx hb dJ4_append_bf812_1 rfl (lv_at hl 1 rfl) ?_
  refine zcSU (As := [.int (nI nv)]) (rest := []) [0, 1] 0 hg.1.1 ⟨hx, hb, hml, hown, hts⟩ (c_J5_append_c97b9_d3 hg l D cy o8 b8 ml nn bx mm nv (by first | assumption | omega) (by first | assumption | omega) (by first | assumption | omega) (by first | assumption | omega)) (va_cwSU 1 hts gJ4_append_bf812_J5_append_c97b9_s53 rfl rfl rfl (by decide +kernel) ⟨Nat.le_of_ble_eq_true rfl, Nat.le_of_ble_eq_true rfl⟩) hG hK hP hD hS hA rfl rfl (Eq.trans (b := [o8, b8]) rfl rfl) rfl rfl rfl hl.1 rfl (Nat.le_of_ble_eq_true rfl) dJ4_append_bf812_2 ⟨Nat.zero_le _, Nat.zero_le _⟩ (fun H locs hP hD hS => ?_)
  have hP : va_P D vwCl [(o8, .inr (1, [.ref b8, .int 0, .int ml, .int (nI (nn + 3))])), (b8, .inl (cy 1, mm, .inl (upd (upd (upd bx (nn + 2) (nI (48 + (nv % 100) % 10))) (nn + 1) (nI (48 + (nv % 100) / 10))) (nn + 0) (nI (48 + (nv / 100) % 10)))))] H := hP
  have hD : va_D A [(o8, .inr (1, [.ref b8, .int 0, .int ml, .int (nI (nn + 3))])), (b8, .inl (cy 1, mm, .inl (upd (upd (upd bx (nn + 2) (nI (48 + (nv % 100) % 10))) (nn + 1) (nI (48 + (nv % 100) / 10))) (nn + 0) (nI (48 + (nv / 100) % 10)))))] := hD
  refine lv_pop hx hb dJ4_append_bf812_5 rfl ?_
  refine lv_aload_n hx hb dJ4_append_bf812_6 rfl (lv_at hl 0 rfl) ?_
  exact zaret hend hx hb hr (Or.inl ⟨_, rfl⟩) hlk hK hP hD hS dJ4_append_bf812_7 rfl rfl
