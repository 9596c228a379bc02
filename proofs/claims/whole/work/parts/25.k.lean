theorem upd_u {f : Nat → Int32} {k : Nat} {x y : Int32} : upd (upd f k x) k y = upd f k y := by
  funext q
  by_cases h : q = k <;> simp [upd, h]
/-- a digit's value, or -1 -/
def zdu (tx : Nat → Int32) (en h : Nat) (lq : Int32) : Int32 := if zic 48 lq (zqs tx en h) = true then zqs tx en h - 48 else -1
theorem zdu_v {lo hi x : Int32} (h : zic lo hi x = true) : lo ≤ x ∧ x ≤ hi := by
  simp only [zic, Bool.and_eq_true, Bool.not_eq_true', decide_eq_false_iff_not] at h
  exact ⟨Int32.not_lt.mp h.1, Int32.not_lt.mp h.2⟩
theorem z48m {x : Int32} (h : 48 ≤ x) (h2 : x ≤ 57) : ∃ n : Nat, n ≤ 9 ∧ x = nI (48 + n) := by
  have a1 : (48 : Int) ≤ x.toInt := by have := Int32.le_iff_toInt_le.mp h; exact this
  have a2 : x.toInt ≤ 57 := by have := Int32.le_iff_toInt_le.mp h2; exact this
  refine ⟨x.toInt.toNat - 48, by omega, ?_⟩
  apply Int32.toInt_inj.mp
  rw [show 48 + (x.toInt.toNat - 48) = x.toInt.toNat by omega, nI_toInt (by omega)]
  omega
theorem z48s {n : Nat} : nI (48 + n) - 48 = nI n := by rw [show (48 : Int32) = nI 48 from rfl, pk_sub (by omega), show 48 + n - 48 = n by omega]
theorem zdu_ne {x hi : Int32} (h : zic 48 hi x = true) (hh : hi ≤ 57) : ¬ x - 48 = -1 := by
  obtain ⟨a, b⟩ := zdu_v h
  obtain ⟨n, hn, rfl⟩ := z48m a (Int32.le_trans b hh)
  rw [z48s]
  exact nI_m1 (by omega)
theorem zdu_y {tx : Nat → Int32} {en h : Nat} (hz : ¬ zdu tx en h 57 = -1) : zic 48 57 (zqs tx en h) = true := by
  by_cases hq : zic 48 57 (zqs tx en h) = true
  · exact hq
  · exact absurd (by simp only [zdu]; rw [if_neg hq]) hz
theorem zdu_n {tx : Nat → Int32} {en h : Nat} (hz : zdu tx en h 57 = -1) : ¬ zic 48 57 (zqs tx en h) = true := by
  intro hq
  simp only [zdu, if_pos hq] at hz
  exact zdu_ne hq (by decide) hz
theorem z01 {x : Int32} (h : zic 48 49 x = true) : x = 48 ∨ x = 49 := by
  obtain ⟨a, b⟩ := zdu_v h
  obtain ⟨n, hn, rfl⟩ := z48m a (Int32.le_trans b (by decide))
  have : 48 + n ≤ 49 := (nI_leI (by omega) (by omega)).mp b
  rcases (show n = 0 ∨ n = 1 by omega) with rfl | rfl
  · exact Or.inl rfl
  · exact Or.inr rfl
theorem zdu_1 {tx : Nat → Int32} {en h : Nat} (hz : ¬ zdu tx en h 49 = -1) : zqs tx en h = 48 ∨ zqs tx en h = 49 := by
  by_cases hq : zic 48 49 (zqs tx en h) = true
  · exact z01 hq
  · exact absurd (by simp only [zdu]; rw [if_neg hq]) hz
theorem zdu_0 {tx : Nat → Int32} {en h : Nat} (hz : zdu tx en h 49 = -1) : ¬ (zqs tx en h = 48 ∨ zqs tx en h = 49) := by
  intro hq
  have hq2 : zic 48 49 (zqs tx en h) = true := by rcases hq with e | e <;> rw [e] <;> decide
  simp only [zdu, if_pos hq2] at hz
  exact zdu_ne hq2 (by decide) hz
theorem zdu_m {tx : Nat → Int32} {en h i : Nat} (hq : zqs tx en h = 48 ∨ zqs tx en h = 49) {a : Int32} : a ||| (zdu tx en h 49 <<< (nI i &&& 31)) = a ||| (if zqs tx en h = 49 then 1 <<< (nI i &&& 31) else 0) := by
  have hq2 : zic 48 49 (zqs tx en h) = true := by rcases hq with e | e <;> rw [e] <;> decide
  rw [zdu, if_pos hq2]
  rcases hq with e | e
  · rw [e, if_neg (by decide), show (48 : Int32) - 48 = 0 by decide, Int32.zero_shiftLeft]
  · rw [e, if_pos rfl, show (49 : Int32) - 48 = 1 by decide]
/-- a number so far -/
def zn0 (i : Nat) (a : Int32) : Int32 := if i = 0 then -1 else a
def zNu (tx : Nat → Int32) (en N h : Nat) : Int32 := zn0 (zdN tx en N h) (zdV tx en N h 0)
theorem zn0_a {tx : Nat → Int32} {en h i : Nat} {a : Int32} (hq : zic 48 57 (zqs tx en h) = true) (ha : a = 0) (hi : i = 0) : 0 + zdu tx en h 57 = zn0 (i + 1) (10 * a + zqs tx en h - 48) := by
  subst ha
  rw [zn0, if_neg (Nat.succ_ne_zero _), zdu, if_pos hq, show (10 : Int32) * 0 = 0 by decide, Int32.zero_add, Int32.zero_add]
theorem zn0_b {tx : Nat → Int32} {en h i : Nat} {a : Int32} (hq : zic 48 57 (zqs tx en h) = true) (hi : ¬ i = 0) : zn0 i a * 10 + zdu tx en h 57 = zn0 (i + 1) (10 * a + zqs tx en h - 48) := by
  rw [zn0, zn0, if_neg hi, if_neg (Nat.succ_ne_zero _), zdu, if_pos hq, Int32.mul_comm a 10, Int32.sub_eq_add_neg, Int32.sub_eq_add_neg, Int32.add_assoc]
theorem zdV_n (tx : Nat → Int32) (en : Nat) : ∀ (F h : Nat) (m : Nat), F ≤ 2 → m < 1000 → ∃ n : Nat, n ≤ 10 ^ F * (m + 1) ∧ zdV tx en F h (nI m) = nI n
  | 0, _, m, _, _ => ⟨m, by omega, rfl⟩
  | F + 1, h, m, hF, hm => by
    simp only [zdV]
    split
    · rename_i hq
      obtain ⟨a, b⟩ := zdu_v hq
      obtain ⟨d, hd, e⟩ := z48m a b
      rw [e, show (10 : Int32) = nI 10 from rfl, pk_mul, nI_add, show (48 : Int32) = nI 48 from rfl, pk_sub (by omega), show 10 * m + (48 + d) - 48 = 10 * m + d by omega]
      match F, hF with
      | 0, _ => exact ⟨10 * m + d, by omega, rfl⟩
      | 1, _ =>
        simp only [zdV]
        split
        · rename_i hq2
          obtain ⟨a2, b2⟩ := zdu_v hq2
          obtain ⟨d2, hd2, e2⟩ := z48m a2 b2
          rw [e2, show (10 : Int32) = nI 10 from rfl, pk_mul, nI_add, show (48 : Int32) = nI 48 from rfl, pk_sub (by omega), show 10 * (10 * m + d) + (48 + d2) - 48 = 10 * (10 * m + d) + d2 by omega]
          exact ⟨10 * (10 * m + d) + d2, by omega, rfl⟩
        · exact ⟨10 * m + d, by omega, rfl⟩
    · exact ⟨m, by rcases (show F = 0 ∨ F = 1 by omega) with rfl | rfl <;> omega, rfl⟩
theorem zNu_m {tx : Nat → Int32} {en N h : Nat} (hN : N ≤ 2) : zNu tx en N h = -1 ↔ zdN tx en N h = 0 := by
  rw [zNu, zn0]
  constructor
  · intro hz
    by_cases h0 : zdN tx en N h = 0
    · exact h0
    · rw [if_neg h0] at hz
      obtain ⟨n, hn, e⟩ := zdV_n tx en N h 0 hN (by decide)
      rw [show (0 : Int32) = nI 0 from rfl, e] at hz
      have h9 : 10 ^ N ≤ 10 ^ 2 := Nat.pow_le_pow_right (by decide) hN
      exact absurd hz (nI_m1 (by omega))
  · intro hz
    rw [if_pos hz]
/-- a sign of the text as a byte -/
def zas (x : Int32) : Prop := 0 ≤ x ∧ x ≤ 255 ∧ x.toInt8.toInt32 = x
def zs2 (tx : Nat → Int32) (en h : Nat) (iw : Bool) (x : Int32) : Int32 := if zmW tx en h iw x = true then 0 else zNu tx en 2 (zmH tx en h iw x)
theorem zfi_m1 (p : Nat → Bool) : ∀ (n k : Nat), (∀ j, k ≤ j → j < k + n → p j = false) → zfi p n k = -1
  | 0, _, _ => rfl
  | n + 1, k, h => by
    simp only [zfi, h k (Nat.le_refl _) (by omega), Bool.false_eq_true, ↓reduceIte]
    exact zfi_m1 p n (k + 1) (fun j h1 h2 => h j (by omega) (by omega))
theorem zix_bad {x : Int32} (hn : zqn x = false) (hd : zid x = false) (h120 : ¬ x = 120) (h112 : ¬ x = 112) (h113 : ¬ x = 113) : zfi (fun q => decide (zltr q = x)) 14 0 = -1 := by
  refine zfi_m1 _ 14 0 (fun j _ hj => ?_)
  simp only [zqn, zid, Bool.or_eq_false_iff, decide_eq_false_iff_not] at hn hd
  have hj2 : j < 14 := by omega
  rcases (show j = 0 ∨ j = 1 ∨ j = 2 ∨ j = 3 ∨ j = 4 ∨ j = 5 ∨ j = 6 ∨ j = 7 ∨ j = 8 ∨ j = 9 ∨ j = 10 ∨ j = 11 ∨ j = 12 ∨ j = 13 by omega) with rfl | rfl | rfl | rfl | rfl | rfl | rfl | rfl | rfl | rfl | rfl | rfl | rfl | rfl <;>
    simp only [zltr, List.getD_cons_zero, List.getD_cons_succ, decide_eq_false_iff_not] <;> intro z <;> simp_all
abbrev rmJ0_isLatin1_aae02 : Room := { frames := 0, cells := 0, slots := 0, locals := 0 }
set_option maxHeartbeats 4000000 in
set_option maxRecDepth 100000 in
theorem c_J0_isLatin1_aae02 {G : zG} (hg : zGJ G) (l : Launch) (D : va_G) (cy : Nat → ClassId) (ak : Nat) (av : Nat) (hgl : ∀ (A : Nat → Prop) (U : State), G A U → zLit ak av A U) : zM G D vwCl (zT cy) l yJ0_isLatin1_aae02 wsJ0_isLatin1_aae02 rmJ0_isLatin1_aae02 [.ref ak] [] (some (.int 1)) [] := by
  refine zM_of (cc := cJ0_isLatin1_aae02) (maxL := 1) (ret := (some .boolean)) (by decide) rfl (Nat.le_of_ble_eq_true rfl) ?_
  intro p e s m below meth c A Q hend hx hb hml hr hts hown hlk hG hK hP hD hA hS ls hl
  have hown : s.vm.findClass RJ0 = some m.cls := hown
  have hl : lv_has ls 1 [(0, .ref ak)] := hl
  refine va_gets hx hb (hg.2 A s hG).1 hS hown (hts _ (List.mem_of_getElem? (i := 1) rfl)) (fun _ h9 => h9) dJ0_isLatin1_aae02_0 ?_
  refine lv_if_eq (tgt := 17) hx hb dJ0_isLatin1_aae02_3 (by decide) (fun c_1 => ?_) (fun c_1 => ?_)
  · exact absurd c_1 (by decide)
  · refine lv_aload_n hx hb dJ0_isLatin1_aae02_6 rfl (lv_at hl 0 rfl) ?_
    refine vk_getf hx hb (hgl A s hG).2.2.1 hS hown (hts _ (List.mem_of_getElem? (i := 2) rfl)) (fun _ h9 => h9) dJ0_isLatin1_aae02_7 ?_
    refine lv_if_ne (tgt := 17) hx hb dJ0_isLatin1_aae02_10 (by decide) (fun c_2 => ?_) (fun c_2 => ?_)
    · exact absurd c_2 (by decide)
    · refine lv_iconst (v := 1) hx hb dJ0_isLatin1_aae02_13 (by decide) ?_
      refine lv_goto (tgt := 18) hx hb dJ0_isLatin1_aae02_14 (by decide) ?_
      exact zzret hend hx hb hr hlk hK hP hD hS dJ0_isLatin1_aae02_18 rfl rfl rfl

abbrev rmJ0_coder_7d493 : Room := { frames := 0, cells := 0, slots := 0, locals := 0 }
set_option maxHeartbeats 4000000 in
set_option maxRecDepth 100000 in
theorem c_J0_coder_7d493 {G : zG} (hg : zGJ G) (l : Launch) (D : va_G) (cy : Nat → ClassId) (ak : Nat) (av : Nat) (hgl : ∀ (A : Nat → Prop) (U : State), G A U → zLit ak av A U) : zM G D vwCl (zT cy) l yJ0_coder_7d493 wsJ0_coder_7d493 rmJ0_coder_7d493 [.ref ak] [] (some (.int 0)) [] := by
  refine zM_of (cc := cJ0_coder_7d493) (maxL := 1) (ret := (some .byte)) (by decide) rfl (Nat.le_of_ble_eq_true rfl) ?_
  intro p e s m below meth c A Q hend hx hb hml hr hts hown hlk hG hK hP hD hA hS ls hl
  have hown : s.vm.findClass RJ0 = some m.cls := hown
  have hl : lv_has ls 1 [(0, .ref ak)] := hl
  refine va_gets hx hb (hg.2 A s hG).1 hS hown (hts _ (List.mem_of_getElem? (i := 1) rfl)) (fun _ h9 => h9) dJ0_coder_7d493_0 ?_
  refine lv_if_eq (tgt := 13) hx hb dJ0_coder_7d493_3 (by decide) (fun c_1 => ?_) (fun c_1 => ?_)
  · exact absurd c_1 (by decide)
  · refine lv_aload_n hx hb dJ0_coder_7d493_6 rfl (lv_at hl 0 rfl) ?_
    refine vk_getf hx hb (hgl A s hG).2.2.1 hS hown (hts _ (List.mem_of_getElem? (i := 2) rfl)) (fun _ h9 => h9) dJ0_coder_7d493_7 ?_
    refine lv_goto (tgt := 14) hx hb dJ0_coder_7d493_10 (by decide) ?_
    exact zzret hend hx hb hr hlk hK hP hD hS dJ0_coder_7d493_14 rfl rfl rfl

abbrev rmJ0_length_8abf5 : Room := { frames := 1, cells := 0, slots := 0, locals := 20 }
set_option maxHeartbeats 4000000 in
set_option maxRecDepth 100000 in
theorem c_J0_length_8abf5 {G : zG} (hg : zGJ G) (l : Launch) (D : va_G) (cy : Nat → ClassId) (ak : Nat) (av : Nat) (hgl : ∀ (A : Nat → Prop) (U : State), G A U → zLit ak av A U) : zM G D vwCl (zT cy) l yJ0_length_8abf5 wsJ0_length_8abf5 rmJ0_length_8abf5 [.ref ak] [] (some (.int 14)) [] := by
  refine zM_of (cc := cJ0_length_8abf5) (maxL := 1) (ret := (some .int)) (by decide) rfl (Nat.le_of_ble_eq_true rfl) ?_
  intro p e s m below meth c A Q hend hx hb hml hr hts hown hlk hG hK hP hD hA hS ls hl
  have hown : s.vm.findClass RJ0 = some m.cls := hown
  have hl : lv_has ls 1 [(0, .ref ak)] := hl
  refine lv_aload_n hx hb dJ0_length_8abf5_0 rfl (lv_at hl 0 rfl) ?_
  refine vk_getf hx hb (hgl A s hG).2.2.2.1 hS hown (hts _ (List.mem_of_getElem? (i := 1) rfl)) (fun _ h9 => h9) dJ0_length_8abf5_1 ?_
  refine va_tlen (v := 14) hx hb (hgl A s hG).2.2.2.2 hS rfl dJ0_length_8abf5_4 ?_
  refine lv_aload_n hx hb dJ0_length_8abf5_5 rfl (lv_at hl 0 rfl) ?_
  refine zcVK (C := RJ0) (As := []) (rest := [.int 14]) [] hg.1.1 ⟨hx, hb, hml, hown, hts⟩ (c_J0_coder_7d493 hg l D cy ak av (by first | assumption | omega)) (cwV 0 hts gJ0_length_8abf5_J0_coder_7d493 rfl rfl rfl (by decide +kernel) ⟨Nat.le_of_ble_eq_true rfl, Nat.le_of_ble_eq_true rfl⟩) (hgl A s hG).2.1 hG hK hP hD hS hA rfl rfl rfl  rfl hl.1 rfl (Nat.le_of_ble_eq_true rfl) dJ0_length_8abf5_6 ⟨Nat.zero_le _, Nat.zero_le _⟩ (fun H locs hP hD hS => ?_)
  have hP : va_P D vwCl [] H := hP
  have hD : va_D A [] := hD
  refine lv_ishr hx hb dJ0_length_8abf5_9 ?_
  refine z_top (y := 14) (by decide) ?_
  exact ziret hend hx hb hr hlk hK hP hD hS dJ0_length_8abf5_10 rfl rfl

abbrev rmJ1_canEncode_9a6ad : Room := { frames := 0, cells := 0, slots := 0, locals := 0 }
set_option maxHeartbeats 4000000 in
set_option maxRecDepth 100000 in
theorem c_J1_canEncode_9a6ad {G : zG} (hg : zGN G) (l : Launch) (D : va_G) (cy : Nat → ClassId) (xq : Int32) (hx0 : 0 ≤ xq) (hxq : xq ≤ 255) : zM G D vwCl (zT cy) l yJ1_canEncode_9a6ad wsJ1_canEncode_9a6ad rmJ1_canEncode_9a6ad [.int xq] [] (some (.int 1)) [] := by
  refine zM_of (cc := cJ1_canEncode_9a6ad) (maxL := 1) (ret := (some .boolean)) (by decide) rfl (Nat.le_of_ble_eq_true rfl) ?_
  intro p e s m below meth c A Q hend hx hb hml hr hts hown hlk hG hK hP hD hA hS ls hl
  have hown : s.vm.findClass RJ1 = some m.cls := hown
  have hl : lv_has ls 1 [(0, .int xq)] := hl
  refine lv_iload_n hx hb dJ1_canEncode_9a6ad_0 rfl (lv_at hl 0 rfl) ?_
  refine lv_if_lt (tgt := 15) hx hb dJ1_canEncode_9a6ad_1 (by decide) (fun c_1 => ?_) (fun c_1 => ?_)
  · exact absurd hx0 (Int32.not_le.mpr c_1)
  · refine lv_iload_n hx hb dJ1_canEncode_9a6ad_4 rfl (lv_at hl 0 rfl) ?_
    refine lv_sipush (v := 255) hx hb dJ1_canEncode_9a6ad_5 (by decide) ?_
    refine lv_icmp_gt (tgt := 15) hx hb dJ1_canEncode_9a6ad_8 (by decide) (fun c_2 => ?_) (fun c_2 => ?_)
    · exact absurd hxq (Int32.not_le.mpr c_2)
    · refine lv_iconst (v := 1) hx hb dJ1_canEncode_9a6ad_11 (by decide) ?_
      refine lv_goto (tgt := 16) hx hb dJ1_canEncode_9a6ad_12 (by decide) ?_
      exact zzret hend hx hb hr hlk hK hP hD hS dJ1_canEncode_9a6ad_16 rfl rfl rfl

abbrev rmJ1_indexOfChar_4cfef : Room := { frames := 0, cells := 0, slots := 0, locals := 0 }
set_option maxHeartbeats 4000000 in
set_option maxRecDepth 100000 in
theorem c_J1_indexOfChar_4cfef {G : zG} (hg : zGJ G) (l : Launch) (D : va_G) (cy : Nat → ClassId) (ak : Nat) (av : Nat) (xq : Int32) (hgl : ∀ (A : Nat → Prop) (U : State), G A U → zLit ak av A U) (hb2 : xq.toInt8.toInt32 = xq) : zM G D vwCl (zT cy) l yJ1_indexOfChar_4cfef wsJ1_indexOfChar_4cfef rmJ1_indexOfChar_4cfef [.ref av, .int xq, .int 0, .int 14] [] (some (.int (zfi (fun q => decide (zltr q = xq)) 14 0))) [] := by
  refine zM_of (cc := cJ1_indexOfChar_4cfef) (maxL := 6) (ret := (some .int)) (by decide) rfl (Nat.le_of_ble_eq_true rfl) ?_
  intro p e s m below meth c A Q hend hx hb hml hr hts hown hlk hG hK hP hD hA hS ls hl
  have hown : s.vm.findClass RJ1 = some m.cls := hown
  have hl : lv_has ls 6 [(0, .ref av), (1, .int xq), (2, .int 0), (3, .int 14)] := hl
  refine lv_iload_n hx hb dJ1_indexOfChar_4cfef_0 rfl (lv_at hl 1 rfl) ?_
  refine lv_i2b hx hb dJ1_indexOfChar_4cfef_1 rfl ?_
  refine z_top (y := xq) (hb2) ?_
  refine lv_istore (lv' := [(4, .int xq), (0, .ref av), (1, .int xq), (2, .int 0), (3, .int 14)]) hx hb dJ1_indexOfChar_4cfef_2 hl (by decide) rfl (fun ls hl => ?_)
  refine lv_iload_n hx hb dJ1_indexOfChar_4cfef_4 rfl (lv_at hl 3 rfl) ?_
  refine lv_istore (lv' := [(5, .int 0), (4, .int xq), (0, .ref av), (1, .int xq), (2, .int 0), (3, .int 14)]) hx hb dJ1_indexOfChar_4cfef_5 hl (by decide) rfl (fun ls hl => ?_)
  have L7 : ∀ (F : Nat) (i : Nat), i ≤ 14 → zfi (fun q => decide (zltr q = xq)) 14 0 = zfi (fun q => decide (zltr q = xq)) (14 - i) i → 14 - i < F → ∀ (H : Heap) (locs : List Loc), va_P D vwCl [] H → va_D A [] → va_S A s.heap H locs → ∀ ls : Array Slot, lv_has ls 6 [(0, .ref av), (1, .int xq), (2, .int 0), (3, .int 14), (4, .int xq), (5, .int (nI i))] → W p l e rmJ1_indexOfChar_4cfef s m ([.ref av, .int xq, .int 0, .int 14] : List Value).toArray below meth c H locs 0 0 Q (F0 m 7 ls []) := by
    intro F
    induction F with
    | zero =>
      intro i hi hr2 hF H locs hP hD hS ls hl
      exact absurd hF (Nat.not_lt_zero _)
    | succ F ih7 =>
      intro i hi hr2 hF H locs hP hD hS ls hl
      refine lv_iload hx hb dJ1_indexOfChar_4cfef_7 (lv_at hl 5 rfl) ?_
      refine lv_iload_n hx hb dJ1_indexOfChar_4cfef_9 rfl (lv_at hl 3 rfl) ?_
      refine lv_icmp_ge (tgt := 31) hx hb dJ1_indexOfChar_4cfef_10 (by decide) (fun c_1 => ?_) (fun c_1 => ?_)
      · have hk2 : 14 ≤ i := (nI_leI (a := 14) (by omega) (by omega)).mp c_1
        obtain rfl : 14 = i := by omega
        refine lv_iconst (v := (-1)) hx hb dJ1_indexOfChar_4cfef_31 (by decide) ?_
        exact ziret hend hx hb hr hlk hK hP hD hS dJ1_indexOfChar_4cfef_32 (by first | (rw [hr2, show 14 - i = (14 - (i + 1)) + 1 by omega, zfi]; simp [c_1]; done) | (rw [hr2, Nat.sub_self]; rfl)) rfl
      · have hk2 : i < 14 := Nat.lt_of_not_le (fun z => c_1 (nI_le (a := 14) z (by omega)))
        refine lv_aload_n hx hb dJ1_indexOfChar_4cfef_13 rfl (lv_at hl 0 rfl) ?_
        refine lv_iload hx hb dJ1_indexOfChar_4cfef_14 (lv_at hl 5 rfl) ?_
        refine va_tb (v := .int (zltr i)) hx hb (hgl A s hG).2.2.2.2 hS (vp_in_nI (by omega) (by decide)) (by rw [nI_clamp (by omega)]) dJ1_indexOfChar_4cfef_16 ?_
        refine lv_iload hx hb dJ1_indexOfChar_4cfef_17 (lv_at hl 4 rfl) ?_
        refine lv_icmp_ne (tgt := 25) hx hb dJ1_indexOfChar_4cfef_19 (by decide) (fun c_2 => ?_) (fun c_2 => ?_)
        · refine lv_iinc (v := nI (i + 1)) (lv' := [(5, .int (nI (i + 1))), (0, .ref av), (1, .int xq), (2, .int 0), (3, .int 14), (4, .int xq)]) hx hb dJ1_indexOfChar_4cfef_25 hl (k := 5) rfl (by rw [show Int32.ofInt 1 = nI 1 from rfl, nI_add]) (by decide) rfl (fun ls hl => ?_)
          refine lv_goto (tgt := 7) hx hb dJ1_indexOfChar_4cfef_28 (by decide) ?_
          exact ih7 (i + 1) (by omega) (by rw [hr2, show 14 - i = (14 - (i + 1)) + 1 by omega, zfi]; simp [c_1, c_2]) (by omega) H locs hP hD hS ls (lv_sub hl [1, 2, 3, 4, 5, 0] rfl)
        · refine lv_iload hx hb dJ1_indexOfChar_4cfef_22 (lv_at hl 5 rfl) ?_
          exact ziret hend hx hb hr hlk hK hP hD hS dJ1_indexOfChar_4cfef_24 (by first | (rw [hr2, show 14 - i = (14 - (i + 1)) + 1 by omega, zfi]; simp [c_1, c_2]; done) | (rw [hr2, Nat.sub_self]; rfl)) rfl
  exact L7 (14 - 0 + 1) 0 (by omega) rfl (Nat.lt_succ_self _) s.heap [] hP hD hS ls (lv_sub hl [2, 3, 4, 5, 1, 0] rfl)

abbrev rmJ1_indexOf_4cfef : Room := { frames := 1, cells := 0, slots := 0, locals := 25 }
set_option maxHeartbeats 4000000 in
set_option maxRecDepth 100000 in
theorem c_J1_indexOf_4cfef {G : zG} (hg : zGJ G) (l : Launch) (D : va_G) (cy : Nat → ClassId) (ak : Nat) (av : Nat) (xq : Int32) (hgl : ∀ (A : Nat → Prop) (U : State), G A U → zLit ak av A U) (hx0 : 0 ≤ xq) (hxq : xq ≤ 255) (hb2 : xq.toInt8.toInt32 = xq) : zM G D vwCl (zT cy) l yJ1_indexOf_4cfef wsJ1_indexOf_4cfef rmJ1_indexOf_4cfef [.ref av, .int xq, .int 0, .int 14] [] (some (.int (zfi (fun q => decide (zltr q = xq)) 14 0))) [] := by
  refine zM_of (cc := cJ1_indexOf_4cfef) (maxL := 4) (ret := (some .int)) (by decide) rfl (Nat.le_of_ble_eq_true rfl) ?_
  intro p e s m below meth c A Q hend hx hb hml hr hts hown hlk hG hK hP hD hA hS ls hl
  have hown : s.vm.findClass RJ1 = some m.cls := hown
  have hl : lv_has ls 4 [(0, .ref av), (1, .int xq), (2, .int 0), (3, .int 14)] := hl
  refine lv_iload_n hx hb dJ1_indexOf_4cfef_0 rfl (lv_at hl 1 rfl) ?_
  refine zcS (As := [.int xq]) (rest := []) [] hg.1.1 ⟨hx, hb, hml, hown, hts⟩ (c_J1_canEncode_9a6ad hg.1 l D cy xq (by first | assumption | omega) (by first | assumption | omega)) (va_cwS 1 hts gJ1_indexOf_4cfef_J1_canEncode_9a6ad rfl rfl rfl (by decide +kernel) ⟨Nat.le_of_ble_eq_true rfl, Nat.le_of_ble_eq_true rfl⟩) hG hK hP hD hS hA rfl rfl rfl  rfl hl.1 rfl (Nat.le_of_ble_eq_true rfl) dJ1_indexOf_4cfef_1 ⟨Nat.zero_le _, Nat.zero_le _⟩ (fun H locs hP hD hS => ?_)
  have hP : va_P D vwCl [] H := hP
  have hD : va_D A [] := hD
  refine lv_if_ne (tgt := 9) hx hb dJ1_indexOf_4cfef_4 (by decide) (fun c_1 => ?_) (fun c_1 => ?_)
  · refine lv_iload_n hx hb dJ1_indexOf_4cfef_9 rfl (lv_at hl 2 rfl) ?_
    refine lv_iconst (v := 0) hx hb dJ1_indexOf_4cfef_10 (by decide) ?_
    refine va_mmax hx hb (hml.trans hl.1.symm) hown (hts _ (List.mem_of_getElem? (i := 1) rfl)) (hts _ (List.mem_of_getElem? (i := 2) rfl)) (hts _ (List.mem_of_getElem? (i := 3) rfl)) (hts _ (List.mem_of_getElem? (i := 4) rfl)) (Nat.le_of_ble_eq_true rfl) (Nat.le_of_ble_eq_true rfl) (Nat.zero_le _) (Nat.zero_le _) dJ1_indexOf_4cfef_11 ?_
    refine z_top (y := 0) (by decide) ?_
    refine lv_istore_n (lv' := [(2, .int 0), (0, .ref av), (1, .int xq), (3, .int 14)]) hx hb dJ1_indexOf_4cfef_14 rfl hl (by decide) rfl (fun ls hl => ?_)
    refine lv_iload_n hx hb dJ1_indexOf_4cfef_15 rfl (lv_at hl 3 rfl) ?_
    refine lv_aload_n hx hb dJ1_indexOf_4cfef_16 rfl (lv_at hl 1 rfl) ?_
    refine va_tlen (v := 14) hx hb (hgl A s hG).2.2.2.2 hS rfl dJ1_indexOf_4cfef_17 ?_
    refine va_mmin hx hb (hml.trans hl.1.symm) hown (hts _ (List.mem_of_getElem? (i := 5) rfl)) (hts _ (List.mem_of_getElem? (i := 6) rfl)) (hts _ (List.mem_of_getElem? (i := 3) rfl)) (hts _ (List.mem_of_getElem? (i := 7) rfl)) (Nat.le_of_ble_eq_true rfl) (Nat.le_of_ble_eq_true rfl) (Nat.zero_le _) (Nat.zero_le _) dJ1_indexOf_4cfef_18 ?_
    refine z_top (y := 14) (by decide) ?_
    refine lv_istore_n (lv' := [(3, .int 14), (2, .int 0), (0, .ref av), (1, .int xq)]) hx hb dJ1_indexOf_4cfef_21 rfl hl (by decide) rfl (fun ls hl => ?_)
    refine lv_iload_n hx hb dJ1_indexOf_4cfef_22 rfl (lv_at hl 1 rfl) ?_
    refine lv_iload_n hx hb dJ1_indexOf_4cfef_23 rfl (lv_at hl 0 rfl) ?_
    refine lv_icmp_lt (tgt := 29) hx hb dJ1_indexOf_4cfef_24 (by decide) (fun c_2 => ?_) (fun c_2 => ?_)
    · refine lv_aload_n hx hb dJ1_indexOf_4cfef_29 rfl (lv_at hl 2 rfl) ?_
      refine lv_iload_n hx hb dJ1_indexOf_4cfef_30 rfl (lv_at hl 3 rfl) ?_
      refine lv_iload_n hx hb dJ1_indexOf_4cfef_31 rfl (lv_at hl 1 rfl) ?_
      refine lv_iload_n hx hb dJ1_indexOf_4cfef_32 rfl (lv_at hl 0 rfl) ?_
      refine zcS (As := [.ref av, .int xq, .int 0, .int 14]) (rest := []) [] hg.1.1 ⟨hx, hb, hml, hown, hts⟩ (c_J1_indexOfChar_4cfef hg l D cy ak av xq (by first | assumption | omega) (by first | assumption | omega)) (va_cwS 4 hts gJ1_indexOf_4cfef_J1_indexOfChar_4cfef rfl rfl rfl (by decide +kernel) ⟨Nat.le_of_ble_eq_true rfl, Nat.le_of_ble_eq_true rfl⟩) hG hK hP hD hS hA rfl rfl rfl  rfl hl.1 rfl (Nat.le_of_ble_eq_true rfl) dJ1_indexOf_4cfef_33 ⟨Nat.zero_le _, Nat.zero_le _⟩ (fun H locs hP hD hS => ?_)
      have hP : va_P D vwCl [] H := hP
      have hD : va_D A [] := hD
      exact ziret hend hx hb hr hlk hK hP hD hS dJ1_indexOf_4cfef_36 rfl rfl
    · exact absurd c_2 (by decide)
  · exact absurd c_1 (by decide)

abbrev rmJ0_indexOf_7cf53 : Room := { frames := 2, cells := 0, slots := 0, locals := 48 }
set_option maxHeartbeats 4000000 in
set_option maxRecDepth 100000 in
theorem c_J0_indexOf_7cf53 {G : zG} (hg : zGJ G) (l : Launch) (D : va_G) (cy : Nat → ClassId) (ak : Nat) (av : Nat) (xq : Int32) (hgl : ∀ (A : Nat → Prop) (U : State), G A U → zLit ak av A U) (hx0 : 0 ≤ xq) (hxq : xq ≤ 255) (hb2 : xq.toInt8.toInt32 = xq) : zM G D vwCl (zT cy) l yJ0_indexOf_7cf53 wsJ0_indexOf_7cf53 rmJ0_indexOf_7cf53 [.ref ak, .int xq, .int 0] [] (some (.int (zfi (fun q => decide (zltr q = xq)) 14 0))) [] := by
  refine zM_of (cc := cJ0_indexOf_7cf53) (maxL := 3) (ret := (some .int)) (by decide) rfl (Nat.le_of_ble_eq_true rfl) ?_
  intro p e s m below meth c A Q hend hx hb hml hr hts hown hlk hG hK hP hD hA hS ls hl
  have hown : s.vm.findClass RJ0 = some m.cls := hown
  have hl : lv_has ls 3 [(0, .ref ak), (1, .int xq), (2, .int 0)] := hl
  refine lv_aload_n hx hb dJ0_indexOf_7cf53_0 rfl (lv_at hl 0 rfl) ?_
  refine zcVK (C := RJ0) (As := []) (rest := []) [] hg.1.1 ⟨hx, hb, hml, hown, hts⟩ (c_J0_isLatin1_aae02 hg l D cy ak av (by first | assumption | omega)) (cwV 0 hts gJ0_indexOf_7cf53_J0_isLatin1_aae02 rfl rfl rfl (by decide +kernel) ⟨Nat.le_of_ble_eq_true rfl, Nat.le_of_ble_eq_true rfl⟩) (hgl A s hG).2.1 hG hK hP hD hS hA rfl rfl rfl  rfl hl.1 rfl (Nat.le_of_ble_eq_true rfl) dJ0_indexOf_7cf53_1 ⟨Nat.zero_le _, Nat.zero_le _⟩ (fun H locs hP hD hS => ?_)
  have hP : va_P D vwCl [] H := hP
  have hD : va_D A [] := hD
  refine lv_if_eq (tgt := 23) hx hb dJ0_indexOf_7cf53_4 (by decide) (fun c_1 => ?_) (fun c_1 => ?_)
  · exact absurd c_1 (by decide)
  · refine lv_aload_n hx hb dJ0_indexOf_7cf53_7 rfl (lv_at hl 0 rfl) ?_
    refine vk_getf hx hb (hgl A s hG).2.2.2.1 hS hown (hts _ (List.mem_of_getElem? (i := 1) rfl)) (fun _ h9 => h9) dJ0_indexOf_7cf53_8 ?_
    refine lv_iload_n hx hb dJ0_indexOf_7cf53_11 rfl (lv_at hl 1 rfl) ?_
    refine lv_iload_n hx hb dJ0_indexOf_7cf53_12 rfl (lv_at hl 2 rfl) ?_
    refine lv_aload_n hx hb dJ0_indexOf_7cf53_13 rfl (lv_at hl 0 rfl) ?_
    refine zcVK (C := RJ0) (As := []) (rest := [.int 0, .int xq, .ref av]) [] hg.1.1 ⟨hx, hb, hml, hown, hts⟩ (c_J0_length_8abf5 hg l D cy ak av (by first | assumption | omega)) (cwV 0 hts gJ0_indexOf_7cf53_J0_length_8abf5 rfl rfl rfl (by decide +kernel) ⟨Nat.le_of_ble_eq_true rfl, Nat.le_of_ble_eq_true rfl⟩) (hgl A s hG).2.1 hG hK hP hD hS hA rfl rfl rfl  rfl hl.1 rfl (Nat.le_of_ble_eq_true rfl) dJ0_indexOf_7cf53_14 ⟨Nat.zero_le _, Nat.zero_le _⟩ (fun H locs hP hD hS => ?_)
    have hP : va_P D vwCl [] H := hP
    have hD : va_D A [] := hD
    refine zcS (As := [.ref av, .int xq, .int 0, .int 14]) (rest := []) [] hg.1.1 ⟨hx, hb, hml, hown, hts⟩ (c_J1_indexOf_4cfef hg l D cy ak av xq (by first | assumption | omega) (by first | assumption | omega) (by first | assumption | omega) (by first | assumption | omega)) (va_cwS 4 hts gJ0_indexOf_7cf53_J1_indexOf_4cfef rfl rfl rfl (by decide +kernel) ⟨Nat.le_of_ble_eq_true rfl, Nat.le_of_ble_eq_true rfl⟩) hG hK hP hD hS hA rfl rfl rfl  rfl hl.1 rfl (Nat.le_of_ble_eq_true rfl) dJ0_indexOf_7cf53_17 ⟨Nat.zero_le _, Nat.zero_le _⟩ (fun H locs hP hD hS => ?_)
    have hP : va_P D vwCl [] H := hP
    have hD : va_D A [] := hD
    refine lv_goto (tgt := 36) hx hb dJ0_indexOf_7cf53_20 (by decide) ?_
    exact ziret hend hx hb hr hlk hK hP hD hS dJ0_indexOf_7cf53_36 rfl rfl

abbrev rmJ0_indexOf_0f7a4 : Room := { frames := 3, cells := 0, slots := 0, locals := 70 }
set_option maxHeartbeats 4000000 in
set_option maxRecDepth 100000 in
theorem c_J0_indexOf_0f7a4 {G : zG} (hg : zGJ G) (l : Launch) (D : va_G) (cy : Nat → ClassId) (ak : Nat) (av : Nat) (xq : Int32) (hgl : ∀ (A : Nat → Prop) (U : State), G A U → zLit ak av A U) (hx0 : 0 ≤ xq) (hxq : xq ≤ 255) (hb2 : xq.toInt8.toInt32 = xq) : zM G D vwCl (zT cy) l yJ0_indexOf_0f7a4 wsJ0_indexOf_0f7a4 rmJ0_indexOf_0f7a4 [.ref ak, .int xq] [] (some (.int (zfi (fun q => decide (zltr q = xq)) 14 0))) [] := by
  refine zM_of (cc := cJ0_indexOf_0f7a4) (maxL := 2) (ret := (some .int)) (by decide) rfl (Nat.le_of_ble_eq_true rfl) ?_
  intro p e s m below meth c A Q hend hx hb hml hr hts hown hlk hG hK hP hD hA hS ls hl
  have hown : s.vm.findClass RJ0 = some m.cls := hown
  have hl : lv_has ls 2 [(0, .ref ak), (1, .int xq)] := hl
  refine lv_aload_n hx hb dJ0_indexOf_0f7a4_0 rfl (lv_at hl 0 rfl) ?_
  refine lv_iload_n hx hb dJ0_indexOf_0f7a4_1 rfl (lv_at hl 1 rfl) ?_
  refine lv_iconst (v := 0) hx hb dJ0_indexOf_0f7a4_2 (by decide) ?_
  refine zcVK (C := RJ0) (As := [.int xq, .int 0]) (rest := []) [] hg.1.1 ⟨hx, hb, hml, hown, hts⟩ (c_J0_indexOf_7cf53 hg l D cy ak av xq (by first | assumption | omega) (by first | assumption | omega) (by first | assumption | omega) (by first | assumption | omega)) (cwV 2 hts gJ0_indexOf_0f7a4_J0_indexOf_7cf53 rfl rfl rfl (by decide +kernel) ⟨Nat.le_of_ble_eq_true rfl, Nat.le_of_ble_eq_true rfl⟩) (hgl A s hG).2.1 hG hK hP hD hS hA rfl rfl rfl  rfl hl.1 rfl (Nat.le_of_ble_eq_true rfl) dJ0_indexOf_0f7a4_3 ⟨Nat.zero_le _, Nat.zero_le _⟩ (fun H locs hP hD hS => ?_)
  have hP : va_P D vwCl [] H := hP
  have hD : va_D A [] := hD
  exact ziret hend hx hb hr hlk hK hP hD hS dJ0_indexOf_0f7a4_6 rfl rfl

abbrev rmX1_digitUpTo : Room := { frames := 4, cells := 0, slots := 0, locals := 88 }
set_option maxHeartbeats 4000000 in
set_option maxRecDepth 100000 in
theorem c_X1_digitUpTo {G : zG} (hg : zGJ G) (l : Launch) (D : va_G) (cy : Nat → ClassId) (ic : Nat) (oa : Nat) (fa : Nat) (sa : Nat) (kc : Nat) (he : Nat) (o8 : Nat) (b8 : Nat) (ml : Int32) (nn : Nat) (bx : Nat → Int32) (mm : Nat) (lq : Int32) (hhe : he ≤ 200) (hnm : nn ≤ mm) (hmm : mm ≤ 100) (hch : ∀ j, j < nn → zch (bx j)) : zM G D vwCl (zT cy) l yX1_digitUpTo wsX1_digitUpTo rmX1_digitUpTo [.ref ic, .int lq] [(ic, .inr (5, [.ref o8, .ref oa, .ref fa, .ref sa, .int (nI kc), .int (nI he)])), (o8, .inr (1, [.ref b8, .int 0, .int ml, .int (nI nn)])), (b8, .inl (cy 1, mm, .inl bx))] (some (.int (zdu bx nn he lq))) [(ic, .inr (5, [.ref o8, .ref oa, .ref fa, .ref sa, .int (nI kc), .int (nI he)])), (o8, .inr (1, [.ref b8, .int 0, .int ml, .int (nI nn)])), (b8, .inl (cy 1, mm, .inl bx))] := by
  refine zM_of (cc := cX1_digitUpTo) (maxL := 3) (ret := (some .int)) (by decide) rfl (Nat.le_of_ble_eq_true rfl) ?_
  intro p e s m below meth c A Q hend hx hb hml hr hts hown hlk hG hK hP hD hA hS ls hl
  have hown : s.vm.findClass RX1 = some m.cls := hown
  have in_RX1 : ∀ w ∈ u_ws RX1 TX1 6, w ∈ wsX1_digitUpTo := by decide +kernel
  have hl : lv_has ls 3 [(0, .ref ic), (1, .int lq)] := hl
  refine lv_aload_n hx hb dX1_digitUpTo_0 rfl (lv_at hl 0 rfl) ?_
  refine va_get (D := D) (ci := 5) (v := .int (nI he)) (C := RX1) (T := TX1) (N := 6) hx hb hts in_RX1 hown hK hP 0 rfl rfl 5 (by decide) (hts _ (List.mem_of_getElem? (i := 1) rfl)) (fun _ h9 => h9) rfl dX1_digitUpTo_1 ?_
  refine lv_aload_n hx hb dX1_digitUpTo_4 rfl (lv_at hl 0 rfl) ?_
  refine va_get (D := D) (ci := 5) (v := .ref o8) (C := RX1) (T := TX1) (N := 6) hx hb hts in_RX1 hown hK hP 0 rfl rfl 0 (by decide) (hts _ (List.mem_of_getElem? (i := 2) rfl)) (fun _ h9 => h9) rfl dX1_digitUpTo_5 ?_
  refine zcV (As := []) (rest := [.int (nI he)]) [1] 1 hg.1.1 ⟨hx, hb, hml, hown, hts⟩ (c_J4_length_8abf5 hg.1 l D cy o8 b8 ml nn) (cwV 0 hts gX1_digitUpTo_J4_length_8abf5 rfl rfl rfl (by decide +kernel) ⟨Nat.le_of_ble_eq_true rfl, Nat.le_of_ble_eq_true rfl⟩) hG hK hP hD hS hA rfl rfl rfl rfl rfl rfl hl.1 rfl (Nat.le_of_ble_eq_true rfl) dX1_digitUpTo_8 ⟨Nat.zero_le _, Nat.zero_le _⟩ (fun H locs hP hD hS => ?_)
  have hP : va_P D vwCl [(ic, .inr (5, [.ref o8, .ref oa, .ref fa, .ref sa, .int (nI kc), .int (nI he)])), (o8, .inr (1, [.ref b8, .int 0, .int ml, .int (nI nn)])), (b8, .inl (cy 1, mm, .inl bx))] H := hP
  have hD : va_D A [(ic, .inr (5, [.ref o8, .ref oa, .ref fa, .ref sa, .int (nI kc), .int (nI he)])), (o8, .inr (1, [.ref b8, .int 0, .int ml, .int (nI nn)])), (b8, .inl (cy 1, mm, .inl bx))] := hD
  refine lv_icmp_lt (tgt := 16) hx hb dX1_digitUpTo_11 (by decide) (fun c_1 => ?_) (fun c_1 => ?_)
  · have hlt : he < nn := (nI_ltI (by omega) (by omega)).mp c_1
    have hqs : zqs bx nn he = bx he := by rw [zqs, if_pos hlt]
    refine lv_aload_n hx hb dX1_digitUpTo_16 rfl (lv_at hl 0 rfl) ?_
    refine va_get (D := D) (ci := 5) (v := .ref o8) (C := RX1) (T := TX1) (N := 6) hx hb hts in_RX1 hown hK hP 0 rfl rfl 0 (by decide) (hts _ (List.mem_of_getElem? (i := 2) rfl)) (fun _ h9 => h9) rfl dX1_digitUpTo_17 ?_
    refine lv_aload_n hx hb dX1_digitUpTo_20 rfl (lv_at hl 0 rfl) ?_
    refine va_get (D := D) (ci := 5) (v := .int (nI he)) (C := RX1) (T := TX1) (N := 6) hx hb hts in_RX1 hown hK hP 0 rfl rfl 5 (by decide) (hts _ (List.mem_of_getElem? (i := 1) rfl)) (fun _ h9 => h9) rfl dX1_digitUpTo_21 ?_
    refine zcV (As := [.int (nI he)]) (rest := []) [1, 2] 1 hg.1.1 ⟨hx, hb, hml, hown, hts⟩ (c_J4_charAt_5068e hg l D cy o8 b8 ml nn bx mm he (by first | assumption | omega) (by first | assumption | omega) (by first | assumption | omega) (by first | assumption | omega)) (cwV 1 hts gX1_digitUpTo_J4_charAt_5068e rfl rfl rfl (by decide +kernel) ⟨Nat.le_of_ble_eq_true rfl, Nat.le_of_ble_eq_true rfl⟩) hG hK hP hD hS hA rfl rfl rfl rfl rfl rfl hl.1 rfl (Nat.le_of_ble_eq_true rfl) dX1_digitUpTo_24 ⟨Nat.zero_le _, Nat.zero_le _⟩ (fun H locs hP hD hS => ?_)
    have hP : va_P D vwCl [(ic, .inr (5, [.ref o8, .ref oa, .ref fa, .ref sa, .int (nI kc), .int (nI he)])), (o8, .inr (1, [.ref b8, .int 0, .int ml, .int (nI nn)])), (b8, .inl (cy 1, mm, .inl bx))] H := hP
    have hD : va_D A [(ic, .inr (5, [.ref o8, .ref oa, .ref fa, .ref sa, .int (nI kc), .int (nI he)])), (o8, .inr (1, [.ref b8, .int 0, .int ml, .int (nI nn)])), (b8, .inl (cy 1, mm, .inl bx))] := hD
    refine lv_istore_n (lv' := [(2, .int (bx he)), (0, .ref ic), (1, .int lq)]) hx hb dX1_digitUpTo_27 rfl hl (by decide) rfl (fun ls hl => ?_)
    refine lv_iload_n hx hb dX1_digitUpTo_28 rfl (lv_at hl 0 rfl) ?_
    refine lv_bipush (v := 48) hx hb dX1_digitUpTo_29 (by decide) ?_
    refine lv_icmp_lt (tgt := 46) hx hb dX1_digitUpTo_31 (by decide) (fun c_2 => ?_) (fun c_2 => ?_)
    · refine lv_iconst (v := (-1)) hx hb dX1_digitUpTo_46 (by decide) ?_
      exact ziret hend hx hb hr hlk hK hP hD hS dX1_digitUpTo_47 (by simp only [zdu, hqs]; first | (simp [zic, c_1, c_2]; done) | (simp_all [zic]; done) | decide) rfl
    · refine lv_iload_n hx hb dX1_digitUpTo_34 rfl (lv_at hl 0 rfl) ?_
      refine lv_iload_n hx hb dX1_digitUpTo_35 rfl (lv_at hl 2 rfl) ?_
      refine lv_icmp_gt (tgt := 46) hx hb dX1_digitUpTo_36 (by decide) (fun c_3 => ?_) (fun c_3 => ?_)
      · refine lv_iconst (v := (-1)) hx hb dX1_digitUpTo_46 (by decide) ?_
        exact ziret hend hx hb hr hlk hK hP hD hS dX1_digitUpTo_47 (by simp only [zdu, hqs]; first | (simp [zic, c_1, c_2, c_3]; done) | (simp_all [zic]; done) | decide) rfl
      · refine lv_iload_n hx hb dX1_digitUpTo_39 rfl (lv_at hl 0 rfl) ?_
        refine lv_bipush (v := 48) hx hb dX1_digitUpTo_40 (by decide) ?_
        refine lv_isub hx hb dX1_digitUpTo_42 ?_
        refine lv_goto (tgt := 47) hx hb dX1_digitUpTo_43 (by decide) ?_
        exact ziret hend hx hb hr hlk hK hP hD hS dX1_digitUpTo_47 (by simp only [zdu, hqs]; first | (simp [zic, c_1, c_2, c_3]; done) | (simp_all [zic]; done) | decide) rfl
  · have hge : ¬ he < nn := fun z => c_1 (nI_lt z (by omega))
    have hqs : zqs bx nn he = -1 := by rw [zqs, if_neg hge]
    refine lv_iconst (v := (-1)) hx hb dX1_digitUpTo_14 (by decide) ?_
    exact ziret hend hx hb hr hlk hK hP hD hS dX1_digitUpTo_15 (by simp only [zdu, hqs]; first | (simp [zic, c_1]; done) | (simp_all [zic]; done) | decide) rfl

abbrev rmX1_skip : Room := { frames := 4, cells := 0, slots := 0, locals := 88 }
set_option maxHeartbeats 4000000 in
set_option maxRecDepth 100000 in
theorem c_X1_skip {G : zG} (hg : zGJ G) (l : Launch) (D : va_G) (cy : Nat → ClassId) (ic : Nat) (oa : Nat) (fa : Nat) (sa : Nat) (kc : Nat) (he : Nat) (o8 : Nat) (b8 : Nat) (ml : Int32) (nn : Nat) (bx : Nat → Int32) (mm : Nat) (xq : Int32) (hhe : he ≤ 200) (hnm : nn ≤ mm) (hmm : mm ≤ 100) (hch : ∀ j, j < nn → zch (bx j)) (hx1 : ¬ xq = -1) : zM G D vwCl (zT cy) l yX1_skip wsX1_skip rmX1_skip [.ref ic, .int xq] [(ic, .inr (5, [.ref o8, .ref oa, .ref fa, .ref sa, .int (nI kc), .int (nI he)])), (o8, .inr (1, [.ref b8, .int 0, .int ml, .int (nI nn)])), (b8, .inl (cy 1, mm, .inl bx))] (some (.int (zI (!zmW bx nn he false xq)))) [(ic, .inr (5, [.ref o8, .ref oa, .ref fa, .ref sa, .int (nI kc), .int (nI (zmH bx nn he false xq))])), (o8, .inr (1, [.ref b8, .int 0, .int ml, .int (nI nn)])), (b8, .inl (cy 1, mm, .inl bx))] := by
  refine zM_of (cc := cX1_skip) (maxL := 2) (ret := (some .boolean)) (by decide) rfl (Nat.le_of_ble_eq_true rfl) ?_
  intro p e s m below meth c A Q hend hx hb hml hr hts hown hlk hG hK hP hD hA hS ls hl
  have hown : s.vm.findClass RX1 = some m.cls := hown
  have in_RX1 : ∀ w ∈ u_ws RX1 TX1 6, w ∈ wsX1_skip := by decide +kernel
  have hl : lv_has ls 2 [(0, .ref ic), (1, .int xq)] := hl
  have hx2 : ¬ (-1 : Int32) = xq := fun z => hx1 z.symm
  refine lv_aload_n hx hb dX1_skip_0 rfl (lv_at hl 0 rfl) ?_
  refine va_get (D := D) (ci := 5) (v := .int (nI he)) (C := RX1) (T := TX1) (N := 6) hx hb hts in_RX1 hown hK hP 0 rfl rfl 5 (by decide) (hts _ (List.mem_of_getElem? (i := 1) rfl)) (fun _ h9 => h9) rfl dX1_skip_1 ?_
  refine lv_aload_n hx hb dX1_skip_4 rfl (lv_at hl 0 rfl) ?_
  refine va_get (D := D) (ci := 5) (v := .ref o8) (C := RX1) (T := TX1) (N := 6) hx hb hts in_RX1 hown hK hP 0 rfl rfl 0 (by decide) (hts _ (List.mem_of_getElem? (i := 2) rfl)) (fun _ h9 => h9) rfl dX1_skip_5 ?_
  refine zcV (As := []) (rest := [.int (nI he)]) [1] 1 hg.1.1 ⟨hx, hb, hml, hown, hts⟩ (c_J4_length_8abf5 hg.1 l D cy o8 b8 ml nn) (cwV 0 hts gX1_skip_J4_length_8abf5 rfl rfl rfl (by decide +kernel) ⟨Nat.le_of_ble_eq_true rfl, Nat.le_of_ble_eq_true rfl⟩) hG hK hP hD hS hA rfl rfl rfl rfl rfl rfl hl.1 rfl (Nat.le_of_ble_eq_true rfl) dX1_skip_8 ⟨Nat.zero_le _, Nat.zero_le _⟩ (fun H locs hP hD hS => ?_)
  have hP : va_P D vwCl [(ic, .inr (5, [.ref o8, .ref oa, .ref fa, .ref sa, .int (nI kc), .int (nI he)])), (o8, .inr (1, [.ref b8, .int 0, .int ml, .int (nI nn)])), (b8, .inl (cy 1, mm, .inl bx))] H := hP
  have hD : va_D A [(ic, .inr (5, [.ref o8, .ref oa, .ref fa, .ref sa, .int (nI kc), .int (nI he)])), (o8, .inr (1, [.ref b8, .int 0, .int ml, .int (nI nn)])), (b8, .inl (cy 1, mm, .inl bx))] := hD
  refine lv_icmp_ge (tgt := 29) hx hb dX1_skip_11 (by decide) (fun c_1 => ?_) (fun c_1 => ?_)
  · have hge : ¬ he < nn := Nat.not_lt.mpr ((nI_leI (by omega) (by omega)).mp c_1)
    have hqs : zqs bx nn he = -1 := by rw [zqs, if_neg hge]
    refine lv_iconst (v := 0) hx hb dX1_skip_29 (by decide) ?_
    exact zzret hend hx hb hr hlk hK hP hD hS dX1_skip_30 rfl (by simp only [zmW, hqs, Bool.false_or, Bool.not_not]; first | (simp [zI, c_1]; done) | (simp [zI, hx2]; done) | (simp_all [zI]; done)) (by simp only [zmH, zmW, hqs, Bool.false_or]; first | (simp [c_1]; done) | (simp [hx2]; done) | (simp_all; done))
  · have hlt : he < nn := Nat.lt_of_not_le (fun z => c_1 (nI_le z (by omega)))
    have hqs : zqs bx nn he = bx he := by rw [zqs, if_pos hlt]
    refine lv_aload_n hx hb dX1_skip_14 rfl (lv_at hl 0 rfl) ?_
    refine va_get (D := D) (ci := 5) (v := .ref o8) (C := RX1) (T := TX1) (N := 6) hx hb hts in_RX1 hown hK hP 0 rfl rfl 0 (by decide) (hts _ (List.mem_of_getElem? (i := 2) rfl)) (fun _ h9 => h9) rfl dX1_skip_15 ?_
    refine lv_aload_n hx hb dX1_skip_18 rfl (lv_at hl 0 rfl) ?_
    refine va_get (D := D) (ci := 5) (v := .int (nI he)) (C := RX1) (T := TX1) (N := 6) hx hb hts in_RX1 hown hK hP 0 rfl rfl 5 (by decide) (hts _ (List.mem_of_getElem? (i := 1) rfl)) (fun _ h9 => h9) rfl dX1_skip_19 ?_
    refine zcV (As := [.int (nI he)]) (rest := []) [1, 2] 1 hg.1.1 ⟨hx, hb, hml, hown, hts⟩ (c_J4_charAt_5068e hg l D cy o8 b8 ml nn bx mm he (by first | assumption | omega) (by first | assumption | omega) (by first | assumption | omega) (by first | assumption | omega)) (cwV 1 hts gX1_skip_J4_charAt_5068e rfl rfl rfl (by decide +kernel) ⟨Nat.le_of_ble_eq_true rfl, Nat.le_of_ble_eq_true rfl⟩) hG hK hP hD hS hA rfl rfl rfl rfl rfl rfl hl.1 rfl (Nat.le_of_ble_eq_true rfl) dX1_skip_22 ⟨Nat.zero_le _, Nat.zero_le _⟩ (fun H locs hP hD hS => ?_)
    have hP : va_P D vwCl [(ic, .inr (5, [.ref o8, .ref oa, .ref fa, .ref sa, .int (nI kc), .int (nI he)])), (o8, .inr (1, [.ref b8, .int 0, .int ml, .int (nI nn)])), (b8, .inl (cy 1, mm, .inl bx))] H := hP
    have hD : va_D A [(ic, .inr (5, [.ref o8, .ref oa, .ref fa, .ref sa, .int (nI kc), .int (nI he)])), (o8, .inr (1, [.ref b8, .int 0, .int ml, .int (nI nn)])), (b8, .inl (cy 1, mm, .inl bx))] := hD
    refine lv_iload_n hx hb dX1_skip_25 rfl (lv_at hl 1 rfl) ?_
    refine lv_icmp_eq (tgt := 31) hx hb dX1_skip_26 (by decide) (fun c_2 => ?_) (fun c_2 => ?_)
    · refine lv_aload_n hx hb dX1_skip_31 rfl (lv_at hl 0 rfl) ?_
      refine lv_dup hx hb dX1_skip_32 rfl ?_
      refine va_get (D := D) (ci := 5) (v := .int (nI he)) (C := RX1) (T := TX1) (N := 6) hx hb hts in_RX1 hown hK hP 0 rfl rfl 5 (by decide) (hts _ (List.mem_of_getElem? (i := 1) rfl)) (fun _ h9 => h9) rfl dX1_skip_33 ?_
      refine lv_iconst (v := 1) hx hb dX1_skip_36 (by decide) ?_
      refine lv_iadd hx hb dX1_skip_37 ?_
      refine z_top (y := nI (he + 1)) (nI_add he 1) ?_
      refine va_put (D := D) (ci := 5) (v := .int (nI (he + 1))) (ty := .int) (C := RX1) (T := TX1) (N := 6) hx hb hts in_RX1 tyX1 tyX1_ok nmX1 hown hK hP hD hS 0 rfl rfl 5 (by decide) (hts _ (List.mem_of_getElem? (i := 1) rfl)) (fun _ h9 => h9) rfl (by decide +kernel) rfl rfl (Nat.le_of_ble_eq_true rfl) dX1_skip_38 (fun H locs hP hD hS => ?_)
      have hP : va_P D vwCl [(ic, .inr (5, [.ref o8, .ref oa, .ref fa, .ref sa, .int (nI kc), .int (nI (he + 1))])), (o8, .inr (1, [.ref b8, .int 0, .int ml, .int (nI nn)])), (b8, .inl (cy 1, mm, .inl bx))] H := hP
      have hD : va_D A [(ic, .inr (5, [.ref o8, .ref oa, .ref fa, .ref sa, .int (nI kc), .int (nI (he + 1))])), (o8, .inr (1, [.ref b8, .int 0, .int ml, .int (nI nn)])), (b8, .inl (cy 1, mm, .inl bx))] := hD
      refine lv_iconst (v := 1) hx hb dX1_skip_41 (by decide) ?_
      exact zzret hend hx hb hr hlk hK hP hD hS dX1_skip_42 rfl (by simp only [zmW, hqs, Bool.false_or, Bool.not_not]; first | (simp [zI, c_1, c_2]; done) | (simp [zI, hx2]; done) | (simp_all [zI]; done)) (by simp only [zmH, zmW, hqs, Bool.false_or]; first | (simp [c_1, c_2]; done) | (simp [hx2]; done) | (simp_all; done))
    · refine lv_iconst (v := 0) hx hb dX1_skip_29 (by decide) ?_
      exact zzret hend hx hb hr hlk hK hP hD hS dX1_skip_30 rfl (by simp only [zmW, hqs, Bool.false_or, Bool.not_not]; first | (simp [zI, c_1, c_2]; done) | (simp [zI, hx2]; done) | (simp_all [zI]; done)) (by simp only [zmH, zmW, hqs, Bool.false_or]; first | (simp [c_1, c_2]; done) | (simp [hx2]; done) | (simp_all; done))

abbrev rmX1_readNumber : Room := { frames := 5, cells := 0, slots := 0, locals := 110 }
set_option maxHeartbeats 4000000 in
set_option maxRecDepth 100000 in
theorem c_X1_readNumber {G : zG} (hg : zGJ G) (l : Launch) (D : va_G) (cy : Nat → ClassId) (ic : Nat) (oa : Nat) (fa : Nat) (sa : Nat) (kc : Nat) (he : Nat) (o8 : Nat) (b8 : Nat) (ml : Int32) (nn : Nat) (bx : Nat → Int32) (mm : Nat) (N : Nat) (hhe : he ≤ 200) (hnm : nn ≤ mm) (hmm : mm ≤ 100) (hch : ∀ j, j < nn → zch (bx j)) (hN2 : N ≤ 2) (hhe2 : he ≤ 90) : zM G D vwCl (zT cy) l yX1_readNumber wsX1_readNumber rmX1_readNumber [.ref ic, .int (nI N)] [(ic, .inr (5, [.ref o8, .ref oa, .ref fa, .ref sa, .int (nI kc), .int (nI he)])), (o8, .inr (1, [.ref b8, .int 0, .int ml, .int (nI nn)])), (b8, .inl (cy 1, mm, .inl bx))] (some (.int (zNu bx nn N he))) [(ic, .inr (5, [.ref o8, .ref oa, .ref fa, .ref sa, .int (nI kc), .int (nI (he + zdN bx nn N he))])), (o8, .inr (1, [.ref b8, .int 0, .int ml, .int (nI nn)])), (b8, .inl (cy 1, mm, .inl bx))] := by
  refine zM_of (cc := cX1_readNumber) (maxL := 5) (ret := (some .int)) (by decide) rfl (Nat.le_of_ble_eq_true rfl) ?_
  intro p e s m below meth c A Q hend hx hb hml hr hts hown hlk hG hK hP hD hA hS ls hl
  have hown : s.vm.findClass RX1 = some m.cls := hown
  have in_RX1 : ∀ w ∈ u_ws RX1 TX1 6, w ∈ wsX1_readNumber := by decide +kernel
  have hl : lv_has ls 5 [(0, .ref ic), (1, .int (nI N))] := hl
  refine lv_iconst (v := (-1)) hx hb dX1_readNumber_0 (by decide) ?_
  refine lv_istore_n (lv' := [(2, .int (-1)), (0, .ref ic), (1, .int (nI N))]) hx hb dX1_readNumber_1 rfl hl (by decide) rfl (fun ls hl => ?_)
  refine lv_iconst (v := 0) hx hb dX1_readNumber_2 (by decide) ?_
  refine lv_istore_n (lv' := [(3, .int 0), (2, .int (-1)), (0, .ref ic), (1, .int (nI N))]) hx hb dX1_readNumber_3 rfl hl (by decide) rfl (fun ls hl => ?_)
  have L4 : ∀ (F : Nat) (i : Nat) (a : Int32) (x4_0 : Int32) (x4_1 : Int32), i ≤ N → zdN bx nn N he = i + zdN bx nn (N - i) (he + i) → zdV bx nn N he 0 = zdV bx nn (N - i) (he + i) a → (i = 0 → a = 0) → N - i < F → x4_0 = zn0 i a → x4_1 = nI (he + i) → ∀ (H : Heap) (locs : List Loc), va_P D vwCl [(ic, .inr (5, [.ref o8, .ref oa, .ref fa, .ref sa, .int (nI kc), .int x4_1])), (o8, .inr (1, [.ref b8, .int 0, .int ml, .int (nI nn)])), (b8, .inl (cy 1, mm, .inl bx))] H → va_D A [(ic, .inr (5, [.ref o8, .ref oa, .ref fa, .ref sa, .int (nI kc), .int x4_1])), (o8, .inr (1, [.ref b8, .int 0, .int ml, .int (nI nn)])), (b8, .inl (cy 1, mm, .inl bx))] → va_S A s.heap H locs → ∀ ls : Array Slot, lv_has ls 5 [(0, .ref ic), (1, .int (nI N)), (2, .int x4_0), (3, .int (nI i))] → W p l e rmX1_readNumber s m ([.ref ic, .int (nI N)] : List Value).toArray below meth c H locs 0 0 Q (F0 m 4 ls []) := by
    intro F
    induction F with
    | zero =>
      intro i a x4_0 x4_1 hi hN hV ha0 hF ex4_0 ex4_1 H locs hP hD hS ls hl
      exact absurd hF (Nat.not_lt_zero _)
    | succ F ih4 =>
      intro i a x4_0 x4_1 hi hN hV ha0 hF ex4_0 ex4_1 H locs hP hD hS ls hl
      subst ex4_0
      subst ex4_1
      refine lv_iload_n hx hb dX1_readNumber_4 rfl (lv_at hl 3 rfl) ?_
      refine lv_iload_n hx hb dX1_readNumber_5 rfl (lv_at hl 1 rfl) ?_
      refine lv_icmp_ge (tgt := 57) hx hb dX1_readNumber_6 (by decide) (fun c_1 => ?_) (fun c_1 => ?_)
      · have hk2 : N ≤ i := (nI_leI (by omega) (by omega)).mp c_1
        obtain rfl : N = i := by omega
        have hd : zdN bx nn N he = N := by rw [hN, Nat.sub_self]; rfl
        have hv : zdV bx nn N he 0 = a := by rw [hV, Nat.sub_self]; rfl
        refine lv_iload_n hx hb dX1_readNumber_57 rfl (lv_at hl 2 rfl) ?_
        exact ziret hend hx hb hr hlk hK hP hD hS dX1_readNumber_58 (by simp only [zNu, hd, hv] <;> rfl) (by rw [hd])
      · have hk2 : i < N := Nat.lt_of_not_le (fun z => c_1 (nI_le z (by omega)))
        refine lv_aload_n hx hb dX1_readNumber_9 rfl (lv_at hl 0 rfl) ?_
        refine lv_bipush (v := 57) hx hb dX1_readNumber_10 (by decide) ?_
        refine zcV (As := [.int 57]) (rest := []) [0, 1, 2] 0 hg.1.1 ⟨hx, hb, hml, hown, hts⟩ (c_X1_digitUpTo hg l D cy ic oa fa sa kc (he + i) o8 b8 ml nn bx mm 57 (by omega) (by first | assumption | omega) (by first | assumption | omega) (by first | assumption | omega)) (cwV 1 hts gX1_readNumber_X1_digitUpTo rfl rfl rfl (by decide +kernel) ⟨Nat.le_of_ble_eq_true rfl, Nat.le_of_ble_eq_true rfl⟩) hG hK hP hD hS hA rfl rfl rfl rfl rfl rfl hl.1 rfl (Nat.le_of_ble_eq_true rfl) dX1_readNumber_12 ⟨Nat.zero_le _, Nat.zero_le _⟩ (fun H locs hP hD hS => ?_)
        have hP : va_P D vwCl [(ic, .inr (5, [.ref o8, .ref oa, .ref fa, .ref sa, .int (nI kc), .int (nI (he + i))])), (o8, .inr (1, [.ref b8, .int 0, .int ml, .int (nI nn)])), (b8, .inl (cy 1, mm, .inl bx))] H := hP
        have hD : va_D A [(ic, .inr (5, [.ref o8, .ref oa, .ref fa, .ref sa, .int (nI kc), .int (nI (he + i))])), (o8, .inr (1, [.ref b8, .int 0, .int ml, .int (nI nn)])), (b8, .inl (cy 1, mm, .inl bx))] := hD
        refine lv_istore (lv' := [(4, .int (zdu bx nn (he + i) 57)), (0, .ref ic), (1, .int (nI N)), (2, .int (zn0 i a)), (3, .int (nI i))]) hx hb dX1_readNumber_15 hl (by decide) rfl (fun ls hl => ?_)
        refine lv_iload hx hb dX1_readNumber_17 (lv_at hl 0 rfl) ?_
        refine lv_iconst (v := (-1)) hx hb dX1_readNumber_19 (by decide) ?_
        refine lv_icmp_ne (tgt := 25) hx hb dX1_readNumber_20 (by decide) (fun c_2 => ?_) (fun c_2 => ?_)
        · have hdg : zic 48 57 (zqs bx nn (he + i)) = true := zdu_y c_2
          refine lv_iload_n hx hb dX1_readNumber_25 rfl (lv_at hl 4 rfl) ?_
          refine lv_if_ne (tgt := 33) hx hb dX1_readNumber_26 (by decide) (fun c_3 => ?_) (fun c_3 => ?_)
          · have hi0 : ¬ i = 0 := fun z => c_3 (by rw [z]; rfl)
            refine lv_iload_n hx hb dX1_readNumber_33 rfl (lv_at hl 3 rfl) ?_
            refine lv_bipush (v := 10) hx hb dX1_readNumber_34 (by decide) ?_
            refine lv_imul hx hb dX1_readNumber_36 ?_
            refine lv_iload hx hb dX1_readNumber_37 (lv_at hl 0 rfl) ?_
            refine lv_iadd hx hb dX1_readNumber_39 ?_
            refine lv_istore_n (lv' := [(2, .int (((zn0 i a) * 10) + (zdu bx nn (he + i) 57))), (4, .int (zdu bx nn (he + i) 57)), (0, .ref ic), (1, .int (nI N)), (3, .int (nI i))]) hx hb dX1_readNumber_40 rfl hl (by decide) rfl (fun ls hl => ?_)
            refine lv_aload_n hx hb dX1_readNumber_41 rfl (lv_at hl 2 rfl) ?_
            refine lv_dup hx hb dX1_readNumber_42 rfl ?_
            refine va_get (D := D) (ci := 5) (v := .int (nI (he + i))) (C := RX1) (T := TX1) (N := 6) hx hb hts in_RX1 hown hK hP 0 rfl rfl 5 (by decide) (hts _ (List.mem_of_getElem? (i := 1) rfl)) (fun _ h9 => h9) rfl dX1_readNumber_43 ?_
            refine lv_iconst (v := 1) hx hb dX1_readNumber_46 (by decide) ?_
            refine lv_iadd hx hb dX1_readNumber_47 ?_
            refine z_top (y := nI ((he + i) + 1)) (nI_add (he + i) 1) ?_
            refine va_put (D := D) (ci := 5) (v := .int (nI ((he + i) + 1))) (ty := .int) (C := RX1) (T := TX1) (N := 6) hx hb hts in_RX1 tyX1 tyX1_ok nmX1 hown hK hP hD hS 0 rfl rfl 5 (by decide) (hts _ (List.mem_of_getElem? (i := 1) rfl)) (fun _ h9 => h9) rfl (by decide +kernel) rfl rfl (Nat.le_of_ble_eq_true rfl) dX1_readNumber_48 (fun H locs hP hD hS => ?_)
            have hP : va_P D vwCl [(ic, .inr (5, [.ref o8, .ref oa, .ref fa, .ref sa, .int (nI kc), .int (nI ((he + i) + 1))])), (o8, .inr (1, [.ref b8, .int 0, .int ml, .int (nI nn)])), (b8, .inl (cy 1, mm, .inl bx))] H := hP
            have hD : va_D A [(ic, .inr (5, [.ref o8, .ref oa, .ref fa, .ref sa, .int (nI kc), .int (nI ((he + i) + 1))])), (o8, .inr (1, [.ref b8, .int 0, .int ml, .int (nI nn)])), (b8, .inl (cy 1, mm, .inl bx))] := hD
            refine lv_iinc (v := nI (i + 1)) (lv' := [(3, .int (nI (i + 1))), (2, .int (((zn0 i a) * 10) + (zdu bx nn (he + i) 57))), (4, .int (zdu bx nn (he + i) 57)), (0, .ref ic), (1, .int (nI N))]) hx hb dX1_readNumber_51 hl (k := 4) rfl (by rw [show Int32.ofInt 1 = nI 1 from rfl, nI_add]) (by decide) rfl (fun ls hl => ?_)
            refine lv_goto (tgt := 4) hx hb dX1_readNumber_54 (by decide) ?_
            exact ih4 (i + 1) (10 * a + zqs bx nn (he + i) - 48) (((zn0 i a) * 10) + (zdu bx nn (he + i) 57)) (nI ((he + i) + 1)) (by omega) (by rw [hN, show N - i = (N - (i + 1)) + 1 by omega, zdN, if_pos hdg]; first | rfl | omega | (rw [Nat.add_assoc he i 1]; first | rfl | omega)) (by rw [hV, show N - i = (N - (i + 1)) + 1 by omega, zdV, if_pos hdg]; first | rfl | omega | (rw [Nat.add_assoc he i 1]; first | rfl | omega)) (fun z => absurd z (Nat.succ_ne_zero _)) (by omega) (by first | rfl | exact zn0_a hdg (ha0 hi0) hi0 | exact zn0_b hdg hi0) (by first | rfl | exact zn0_a hdg (ha0 hi0) hi0 | exact zn0_b hdg hi0) H locs hP hD hS ls (lv_sub hl [3, 4, 1, 0] rfl)
          · have hi0 : i = 0 := (nI_eq (a := i) (b := 0) (by omega) (by omega)).mp c_3
            refine lv_iconst (v := 0) hx hb dX1_readNumber_29 (by decide) ?_
            refine lv_goto (tgt := 37) hx hb dX1_readNumber_30 (by decide) ?_
            refine lv_iload hx hb dX1_readNumber_37 (lv_at hl 0 rfl) ?_
            refine lv_iadd hx hb dX1_readNumber_39 ?_
            refine lv_istore_n (lv' := [(2, .int (0 + (zdu bx nn (he + i) 57))), (4, .int (zdu bx nn (he + i) 57)), (0, .ref ic), (1, .int (nI N)), (3, .int (nI i))]) hx hb dX1_readNumber_40 rfl hl (by decide) rfl (fun ls hl => ?_)
            refine lv_aload_n hx hb dX1_readNumber_41 rfl (lv_at hl 2 rfl) ?_
            refine lv_dup hx hb dX1_readNumber_42 rfl ?_
            refine va_get (D := D) (ci := 5) (v := .int (nI (he + i))) (C := RX1) (T := TX1) (N := 6) hx hb hts in_RX1 hown hK hP 0 rfl rfl 5 (by decide) (hts _ (List.mem_of_getElem? (i := 1) rfl)) (fun _ h9 => h9) rfl dX1_readNumber_43 ?_
            refine lv_iconst (v := 1) hx hb dX1_readNumber_46 (by decide) ?_
            refine lv_iadd hx hb dX1_readNumber_47 ?_
            refine z_top (y := nI ((he + i) + 1)) (nI_add (he + i) 1) ?_
            refine va_put (D := D) (ci := 5) (v := .int (nI ((he + i) + 1))) (ty := .int) (C := RX1) (T := TX1) (N := 6) hx hb hts in_RX1 tyX1 tyX1_ok nmX1 hown hK hP hD hS 0 rfl rfl 5 (by decide) (hts _ (List.mem_of_getElem? (i := 1) rfl)) (fun _ h9 => h9) rfl (by decide +kernel) rfl rfl (Nat.le_of_ble_eq_true rfl) dX1_readNumber_48 (fun H locs hP hD hS => ?_)
            have hP : va_P D vwCl [(ic, .inr (5, [.ref o8, .ref oa, .ref fa, .ref sa, .int (nI kc), .int (nI ((he + i) + 1))])), (o8, .inr (1, [.ref b8, .int 0, .int ml, .int (nI nn)])), (b8, .inl (cy 1, mm, .inl bx))] H := hP
            have hD : va_D A [(ic, .inr (5, [.ref o8, .ref oa, .ref fa, .ref sa, .int (nI kc), .int (nI ((he + i) + 1))])), (o8, .inr (1, [.ref b8, .int 0, .int ml, .int (nI nn)])), (b8, .inl (cy 1, mm, .inl bx))] := hD
            refine lv_iinc (v := nI (i + 1)) (lv' := [(3, .int (nI (i + 1))), (2, .int (0 + (zdu bx nn (he + i) 57))), (4, .int (zdu bx nn (he + i) 57)), (0, .ref ic), (1, .int (nI N))]) hx hb dX1_readNumber_51 hl (k := 4) rfl (by rw [show Int32.ofInt 1 = nI 1 from rfl, nI_add]) (by decide) rfl (fun ls hl => ?_)
            refine lv_goto (tgt := 4) hx hb dX1_readNumber_54 (by decide) ?_
            exact ih4 (i + 1) (10 * a + zqs bx nn (he + i) - 48) (0 + (zdu bx nn (he + i) 57)) (nI ((he + i) + 1)) (by omega) (by rw [hN, show N - i = (N - (i + 1)) + 1 by omega, zdN, if_pos hdg]; first | rfl | omega | (rw [Nat.add_assoc he i 1]; first | rfl | omega)) (by rw [hV, show N - i = (N - (i + 1)) + 1 by omega, zdV, if_pos hdg]; first | rfl | omega | (rw [Nat.add_assoc he i 1]; first | rfl | omega)) (fun z => absurd z (Nat.succ_ne_zero _)) (by omega) (by first | rfl | exact zn0_a hdg (ha0 hi0) hi0 | exact zn0_b hdg hi0) (by first | rfl | exact zn0_a hdg (ha0 hi0) hi0 | exact zn0_b hdg hi0) H locs hP hD hS ls (lv_sub hl [3, 4, 1, 0] rfl)
        · have hnd : ¬ zic 48 57 (zqs bx nn (he + i)) = true := zdu_n (by simpa using c_2)
          have hd : zdN bx nn N he = i := by rw [hN, show N - i = (N - (i + 1)) + 1 by omega, zdN, if_neg hnd]; rfl
          have hv : zdV bx nn N he 0 = a := by rw [hV, show N - i = (N - (i + 1)) + 1 by omega, zdV, if_neg hnd]
          refine lv_iload_n hx hb dX1_readNumber_23 rfl (lv_at hl 3 rfl) ?_
          exact ziret hend hx hb hr hlk hK hP hD hS dX1_readNumber_24 (by simp only [zNu, hd, hv] <;> rfl) (by rw [hd])
  exact L4 (N - 0 + 1) 0 0 (-1) (nI he) (by omega) (by simp) rfl (fun _ => rfl) (Nat.lt_succ_self _) (by rfl) (by rfl) s.heap [] hP hD hS ls (lv_sub hl [2, 3, 1, 0] rfl)

abbrev rmX1_readFirst : Room := { frames := 6, cells := 0, slots := 0, locals := 134 }
set_option maxHeartbeats 4000000 in
set_option maxRecDepth 100000 in
theorem c_X1_readFirst {G : zG} (hg : zGJ G) (l : Launch) (D : va_G) (cy : Nat → ClassId) (ic : Nat) (oa : Nat) (fa : Nat) (sa : Nat) (kc : Nat) (he : Nat) (o8 : Nat) (b8 : Nat) (ml : Int32) (nn : Nat) (bx : Nat → Int32) (mm : Nat) (N : Nat) (k : Nat) (fi : Nat → Int32) (hhe : he ≤ 200) (hnm : nn ≤ mm) (hmm : mm ≤ 100) (hch : ∀ j, j < nn → zch (bx j)) (hN2 : N ≤ 2) (hN1 : 1 ≤ N) (hhe2 : he ≤ 90) (hk : k < 60) : zM G D vwCl (zT cy) l yX1_readFirst wsX1_readFirst rmX1_readFirst [.ref ic, .int (nI k), .int (nI N)] [(ic, .inr (5, [.ref o8, .ref oa, .ref fa, .ref sa, .int (nI kc), .int (nI he)])), (o8, .inr (1, [.ref b8, .int 0, .int ml, .int (nI nn)])), (b8, .inl (cy 1, mm, .inl bx)), (fa, .inl (cy 0, 60, .inl fi))] (some (.int (zI (!decide (zdN bx nn N he = 0))))) [(ic, .inr (5, [.ref o8, .ref oa, .ref fa, .ref sa, .int (nI kc), .int (nI (he + zdN bx nn N he))])), (o8, .inr (1, [.ref b8, .int 0, .int ml, .int (nI nn)])), (b8, .inl (cy 1, mm, .inl bx)), (fa, .inl (cy 0, 60, .inl (upd fi k (zNu bx nn N he))))] := by
  refine zM_of (cc := cX1_readFirst) (maxL := 3) (ret := (some .boolean)) (by decide) rfl (Nat.le_of_ble_eq_true rfl) ?_
  intro p e s m below meth c A Q hend hx hb hml hr hts hown hlk hG hK hP hD hA hS ls hl
  have hown : s.vm.findClass RX1 = some m.cls := hown
  have in_RX1 : ∀ w ∈ u_ws RX1 TX1 6, w ∈ wsX1_readFirst := by decide +kernel
  have hl : lv_has ls 3 [(0, .ref ic), (1, .int (nI k)), (2, .int (nI N))] := hl
  refine lv_aload_n hx hb dX1_readFirst_0 rfl (lv_at hl 0 rfl) ?_
  refine va_get (D := D) (ci := 5) (v := .ref fa) (C := RX1) (T := TX1) (N := 6) hx hb hts in_RX1 hown hK hP 0 rfl rfl 2 (by decide) (hts _ (List.mem_of_getElem? (i := 1) rfl)) (fun _ h9 => h9) rfl dX1_readFirst_1 ?_
  refine lv_iload_n hx hb dX1_readFirst_4 rfl (lv_at hl 1 rfl) ?_
  refine lv_aload_n hx hb dX1_readFirst_5 rfl (lv_at hl 0 rfl) ?_
  refine lv_iload_n hx hb dX1_readFirst_6 rfl (lv_at hl 2 rfl) ?_
  refine zcV (As := [.int (nI N)]) (rest := [.int (nI k), .ref fa]) [0, 1, 2] 0 hg.1.1 ⟨hx, hb, hml, hown, hts⟩ (c_X1_readNumber hg l D cy ic oa fa sa kc he o8 b8 ml nn bx mm N (by first | assumption | omega) (by first | assumption | omega) (by first | assumption | omega) (by first | assumption | omega) (by first | assumption | omega) (by first | assumption | omega)) (cwV 1 hts gX1_readFirst_X1_readNumber rfl rfl rfl (by decide +kernel) ⟨Nat.le_of_ble_eq_true rfl, Nat.le_of_ble_eq_true rfl⟩) hG hK hP hD hS hA rfl rfl (Eq.trans (b := [ic, o8, b8]) rfl rfl) rfl rfl rfl hl.1 rfl (Nat.le_of_ble_eq_true rfl) dX1_readFirst_7 ⟨Nat.zero_le _, Nat.zero_le _⟩ (fun H locs hP hD hS => ?_)
  have hP : va_P D vwCl [(ic, .inr (5, [.ref o8, .ref oa, .ref fa, .ref sa, .int (nI kc), .int (nI (he + zdN bx nn N he))])), (o8, .inr (1, [.ref b8, .int 0, .int ml, .int (nI nn)])), (b8, .inl (cy 1, mm, .inl bx)), (fa, .inl (cy 0, 60, .inl fi))] H := hP
  have hD : va_D A [(ic, .inr (5, [.ref o8, .ref oa, .ref fa, .ref sa, .int (nI kc), .int (nI (he + zdN bx nn N he))])), (o8, .inr (1, [.ref b8, .int 0, .int ml, .int (nI nn)])), (b8, .inl (cy 1, mm, .inl bx)), (fa, .inl (cy 0, 60, .inl fi))] := hD
  refine ziast 3 0 k hx hb hK hP hD hS rfl rfl (by omega) (z_lt rfl) dX1_readFirst_10 (fun H locs hP hD hS => ?_)
  have hP : va_P D vwCl [(ic, .inr (5, [.ref o8, .ref oa, .ref fa, .ref sa, .int (nI kc), .int (nI (he + zdN bx nn N he))])), (o8, .inr (1, [.ref b8, .int 0, .int ml, .int (nI nn)])), (b8, .inl (cy 1, mm, .inl bx)), (fa, .inl (cy 0, 60, .inl (upd fi k (zNu bx nn N he))))] H := hP
  have hD : va_D A [(ic, .inr (5, [.ref o8, .ref oa, .ref fa, .ref sa, .int (nI kc), .int (nI (he + zdN bx nn N he))])), (o8, .inr (1, [.ref b8, .int 0, .int ml, .int (nI nn)])), (b8, .inl (cy 1, mm, .inl bx)), (fa, .inl (cy 0, 60, .inl (upd fi k (zNu bx nn N he))))] := hD
  refine lv_aload_n hx hb dX1_readFirst_11 rfl (lv_at hl 0 rfl) ?_
  refine va_get (D := D) (ci := 5) (v := .ref fa) (C := RX1) (T := TX1) (N := 6) hx hb hts in_RX1 hown hK hP 0 rfl rfl 2 (by decide) (hts _ (List.mem_of_getElem? (i := 1) rfl)) (fun _ h9 => h9) rfl dX1_readFirst_12 ?_
  refine lv_iload_n hx hb dX1_readFirst_15 rfl (lv_at hl 1 rfl) ?_
  refine ziald 3 0 k hx hb hK hP rfl rfl (by omega) (z_lt rfl) dX1_readFirst_16 ?_
  refine z_top (y := zNu bx nn N he) (upd_s) ?_
  refine lv_iconst (v := (-1)) hx hb dX1_readFirst_17 (by decide) ?_
  refine lv_icmp_eq (tgt := 25) hx hb dX1_readFirst_18 (by decide) (fun c_1 => ?_) (fun c_1 => ?_)
  · have h0 : zdN bx nn N he = 0 := (zNu_m hN2).mp c_1
    refine lv_iconst (v := 0) hx hb dX1_readFirst_25 (by decide) ?_
    exact zzret hend hx hb hr hlk hK hP hD hS dX1_readFirst_26 rfl (by simp only [h0, decide_true, decide_false, Bool.not_true, Bool.not_false]; rfl) rfl
  · have h0 : ¬ zdN bx nn N he = 0 := fun z => c_1 ((zNu_m hN2).mpr z)
    refine lv_iconst (v := 1) hx hb dX1_readFirst_21 (by decide) ?_
    refine lv_goto (tgt := 26) hx hb dX1_readFirst_22 (by decide) ?_
    exact zzret hend hx hb hr hlk hK hP hD hS dX1_readFirst_26 rfl (by simp only [h0, decide_true, decide_false, Bool.not_true, Bool.not_false]; rfl) rfl

abbrev rmX1_readSecond : Room := { frames := 6, cells := 0, slots := 0, locals := 134 }
set_option maxHeartbeats 4000000 in
set_option maxRecDepth 100000 in
theorem c_X1_readSecond {G : zG} (hg : zGJ G) (l : Launch) (D : va_G) (cy : Nat → ClassId) (ic : Nat) (oa : Nat) (fa : Nat) (sa : Nat) (kc : Nat) (he : Nat) (o8 : Nat) (b8 : Nat) (ml : Int32) (nn : Nat) (bx : Nat → Int32) (mm : Nat) (N : Nat) (k : Nat) (se : Nat → Int32) (hhe : he ≤ 200) (hnm : nn ≤ mm) (hmm : mm ≤ 100) (hch : ∀ j, j < nn → zch (bx j)) (hN2 : N ≤ 2) (hN1 : 1 ≤ N) (hhe2 : he ≤ 90) (hk : k < 60) : zM G D vwCl (zT cy) l yX1_readSecond wsX1_readSecond rmX1_readSecond [.ref ic, .int (nI k), .int (nI N)] [(ic, .inr (5, [.ref o8, .ref oa, .ref fa, .ref sa, .int (nI kc), .int (nI he)])), (o8, .inr (1, [.ref b8, .int 0, .int ml, .int (nI nn)])), (b8, .inl (cy 1, mm, .inl bx)), (sa, .inl (cy 0, 60, .inl se))] (some (.int (zI (!decide (zdN bx nn N he = 0))))) [(ic, .inr (5, [.ref o8, .ref oa, .ref fa, .ref sa, .int (nI kc), .int (nI (he + zdN bx nn N he))])), (o8, .inr (1, [.ref b8, .int 0, .int ml, .int (nI nn)])), (b8, .inl (cy 1, mm, .inl bx)), (sa, .inl (cy 0, 60, .inl (upd se k (zNu bx nn N he))))] := by
  refine zM_of (cc := cX1_readSecond) (maxL := 3) (ret := (some .boolean)) (by decide) rfl (Nat.le_of_ble_eq_true rfl) ?_
  intro p e s m below meth c A Q hend hx hb hml hr hts hown hlk hG hK hP hD hA hS ls hl
  have hown : s.vm.findClass RX1 = some m.cls := hown
  have in_RX1 : ∀ w ∈ u_ws RX1 TX1 6, w ∈ wsX1_readSecond := by decide +kernel
  have hl : lv_has ls 3 [(0, .ref ic), (1, .int (nI k)), (2, .int (nI N))] := hl
  refine lv_aload_n hx hb dX1_readSecond_0 rfl (lv_at hl 0 rfl) ?_
  refine va_get (D := D) (ci := 5) (v := .ref sa) (C := RX1) (T := TX1) (N := 6) hx hb hts in_RX1 hown hK hP 0 rfl rfl 3 (by decide) (hts _ (List.mem_of_getElem? (i := 1) rfl)) (fun _ h9 => h9) rfl dX1_readSecond_1 ?_
  refine lv_iload_n hx hb dX1_readSecond_4 rfl (lv_at hl 1 rfl) ?_
  refine lv_aload_n hx hb dX1_readSecond_5 rfl (lv_at hl 0 rfl) ?_
  refine lv_iload_n hx hb dX1_readSecond_6 rfl (lv_at hl 2 rfl) ?_
  refine zcV (As := [.int (nI N)]) (rest := [.int (nI k), .ref sa]) [0, 1, 2] 0 hg.1.1 ⟨hx, hb, hml, hown, hts⟩ (c_X1_readNumber hg l D cy ic oa fa sa kc he o8 b8 ml nn bx mm N (by first | assumption | omega) (by first | assumption | omega) (by first | assumption | omega) (by first | assumption | omega) (by first | assumption | omega) (by first | assumption | omega)) (cwV 1 hts gX1_readSecond_X1_readNumber rfl rfl rfl (by decide +kernel) ⟨Nat.le_of_ble_eq_true rfl, Nat.le_of_ble_eq_true rfl⟩) hG hK hP hD hS hA rfl rfl (Eq.trans (b := [ic, o8, b8]) rfl rfl) rfl rfl rfl hl.1 rfl (Nat.le_of_ble_eq_true rfl) dX1_readSecond_7 ⟨Nat.zero_le _, Nat.zero_le _⟩ (fun H locs hP hD hS => ?_)
  have hP : va_P D vwCl [(ic, .inr (5, [.ref o8, .ref oa, .ref fa, .ref sa, .int (nI kc), .int (nI (he + zdN bx nn N he))])), (o8, .inr (1, [.ref b8, .int 0, .int ml, .int (nI nn)])), (b8, .inl (cy 1, mm, .inl bx)), (sa, .inl (cy 0, 60, .inl se))] H := hP
  have hD : va_D A [(ic, .inr (5, [.ref o8, .ref oa, .ref fa, .ref sa, .int (nI kc), .int (nI (he + zdN bx nn N he))])), (o8, .inr (1, [.ref b8, .int 0, .int ml, .int (nI nn)])), (b8, .inl (cy 1, mm, .inl bx)), (sa, .inl (cy 0, 60, .inl se))] := hD
  refine ziast 3 0 k hx hb hK hP hD hS rfl rfl (by omega) (z_lt rfl) dX1_readSecond_10 (fun H locs hP hD hS => ?_)
  have hP : va_P D vwCl [(ic, .inr (5, [.ref o8, .ref oa, .ref fa, .ref sa, .int (nI kc), .int (nI (he + zdN bx nn N he))])), (o8, .inr (1, [.ref b8, .int 0, .int ml, .int (nI nn)])), (b8, .inl (cy 1, mm, .inl bx)), (sa, .inl (cy 0, 60, .inl (upd se k (zNu bx nn N he))))] H := hP
  have hD : va_D A [(ic, .inr (5, [.ref o8, .ref oa, .ref fa, .ref sa, .int (nI kc), .int (nI (he + zdN bx nn N he))])), (o8, .inr (1, [.ref b8, .int 0, .int ml, .int (nI nn)])), (b8, .inl (cy 1, mm, .inl bx)), (sa, .inl (cy 0, 60, .inl (upd se k (zNu bx nn N he))))] := hD
  refine lv_aload_n hx hb dX1_readSecond_11 rfl (lv_at hl 0 rfl) ?_
  refine va_get (D := D) (ci := 5) (v := .ref sa) (C := RX1) (T := TX1) (N := 6) hx hb hts in_RX1 hown hK hP 0 rfl rfl 3 (by decide) (hts _ (List.mem_of_getElem? (i := 1) rfl)) (fun _ h9 => h9) rfl dX1_readSecond_12 ?_
  refine lv_iload_n hx hb dX1_readSecond_15 rfl (lv_at hl 1 rfl) ?_
  refine ziald 3 0 k hx hb hK hP rfl rfl (by omega) (z_lt rfl) dX1_readSecond_16 ?_
  refine z_top (y := zNu bx nn N he) (upd_s) ?_
  refine lv_iconst (v := (-1)) hx hb dX1_readSecond_17 (by decide) ?_
  refine lv_icmp_eq (tgt := 25) hx hb dX1_readSecond_18 (by decide) (fun c_1 => ?_) (fun c_1 => ?_)
  · have h0 : zdN bx nn N he = 0 := (zNu_m hN2).mp c_1
    refine lv_iconst (v := 0) hx hb dX1_readSecond_25 (by decide) ?_
    exact zzret hend hx hb hr hlk hK hP hD hS dX1_readSecond_26 rfl (by simp only [h0, decide_true, decide_false, Bool.not_true, Bool.not_false]; rfl) rfl
  · have h0 : ¬ zdN bx nn N he = 0 := fun z => c_1 ((zNu_m hN2).mpr z)
    refine lv_iconst (v := 1) hx hb dX1_readSecond_21 (by decide) ?_
    refine lv_goto (tgt := 26) hx hb dX1_readSecond_22 (by decide) ?_
    exact zzret hend hx hb hr hlk hK hP hD hS dX1_readSecond_26 rfl (by simp only [h0, decide_true, decide_false, Bool.not_true, Bool.not_false]; rfl) rfl

abbrev rmX1_readMask : Room := { frames := 5, cells := 0, slots := 0, locals := 110 }
set_option maxHeartbeats 4000000 in
set_option maxRecDepth 100000 in
theorem c_X1_readMask {G : zG} (hg : zGJ G) (l : Launch) (D : va_G) (cy : Nat → ClassId) (ic : Nat) (oa : Nat) (fa : Nat) (sa : Nat) (kc : Nat) (he : Nat) (o8 : Nat) (b8 : Nat) (ml : Int32) (nn : Nat) (bx : Nat → Int32) (mm : Nat) (k : Nat) (fi : Nat → Int32) (hhe : he ≤ 200) (hnm : nn ≤ mm) (hmm : mm ≤ 100) (hch : ∀ j, j < nn → zch (bx j)) (hhe2 : he ≤ 90) (hk : k < 60) : zM G D vwCl (zT cy) l yX1_readMask wsX1_readMask rmX1_readMask [.ref ic, .int (nI k)] [(ic, .inr (5, [.ref o8, .ref oa, .ref fa, .ref sa, .int (nI kc), .int (nI he)])), (o8, .inr (1, [.ref b8, .int 0, .int ml, .int (nI nn)])), (b8, .inl (cy 1, mm, .inl bx)), (fa, .inl (cy 0, 60, .inl (upd fi k 0)))] (some (.int (zI (decide (zkN bx nn 8 he = 8))))) [(ic, .inr (5, [.ref o8, .ref oa, .ref fa, .ref sa, .int (nI kc), .int (nI (he + zkN bx nn 8 he))])), (o8, .inr (1, [.ref b8, .int 0, .int ml, .int (nI nn)])), (b8, .inl (cy 1, mm, .inl bx)), (fa, .inl (cy 0, 60, .inl (upd fi k (zkM bx nn 8 he 0 0))))] := by
  refine zM_of (cc := cX1_readMask) (maxL := 4) (ret := (some .boolean)) (by decide) rfl (Nat.le_of_ble_eq_true rfl) ?_
  intro p e s m below meth c A Q hend hx hb hml hr hts hown hlk hG hK hP hD hA hS ls hl
  have hown : s.vm.findClass RX1 = some m.cls := hown
  have in_RX1 : ∀ w ∈ u_ws RX1 TX1 6, w ∈ wsX1_readMask := by decide +kernel
  have hl : lv_has ls 4 [(0, .ref ic), (1, .int (nI k))] := hl
  refine lv_iconst (v := 0) hx hb dX1_readMask_0 (by decide) ?_
  refine lv_istore_n (lv' := [(2, .int 0), (0, .ref ic), (1, .int (nI k))]) hx hb dX1_readMask_1 rfl hl (by decide) rfl (fun ls hl => ?_)
  have L2 : ∀ (F : Nat) (i : Nat) (a : Int32) (x2_0 : Int32) (x2_1 : Nat → Int32), i ≤ 8 → zkN bx nn 8 he = i + zkN bx nn (8 - i) (he + i) → zkM bx nn 8 he 0 0 = zkM bx nn (8 - i) (he + i) i a → 8 - i < F → x2_0 = nI (he + i) → x2_1 = upd fi k a → ∀ (H : Heap) (locs : List Loc), va_P D vwCl [(ic, .inr (5, [.ref o8, .ref oa, .ref fa, .ref sa, .int (nI kc), .int x2_0])), (o8, .inr (1, [.ref b8, .int 0, .int ml, .int (nI nn)])), (b8, .inl (cy 1, mm, .inl bx)), (fa, .inl (cy 0, 60, .inl x2_1))] H → va_D A [(ic, .inr (5, [.ref o8, .ref oa, .ref fa, .ref sa, .int (nI kc), .int x2_0])), (o8, .inr (1, [.ref b8, .int 0, .int ml, .int (nI nn)])), (b8, .inl (cy 1, mm, .inl bx)), (fa, .inl (cy 0, 60, .inl x2_1))] → va_S A s.heap H locs → ∀ ls : Array Slot, lv_has ls 4 [(0, .ref ic), (1, .int (nI k)), (2, .int (nI i))] → W p l e rmX1_readMask s m ([.ref ic, .int (nI k)] : List Value).toArray below meth c H locs 0 0 Q (F0 m 2 ls []) := by
    intro F
    induction F with
    | zero =>
      intro i a x2_0 x2_1 hi hN hV hF ex2_0 ex2_1 H locs hP hD hS ls hl
      exact absurd hF (Nat.not_lt_zero _)
    | succ F ih2 =>
      intro i a x2_0 x2_1 hi hN hV hF ex2_0 ex2_1 H locs hP hD hS ls hl
      subst ex2_0
      subst ex2_1
      refine lv_iload_n hx hb dX1_readMask_2 rfl (lv_at hl 2 rfl) ?_
      refine lv_bipush (v := 8) hx hb dX1_readMask_3 (by decide) ?_
      refine lv_icmp_ge (tgt := 50) hx hb dX1_readMask_5 (by decide) (fun c_1 => ?_) (fun c_1 => ?_)
      · have hk2 : 8 ≤ i := (nI_leI (a := 8) (by omega) (by omega)).mp c_1
        obtain rfl : 8 = i := by omega
        have hd : zkN bx nn 8 he = 8 := by rw [hN, Nat.sub_self]; rfl
        have hv : zkM bx nn 8 he 0 0 = a := by rw [hV, Nat.sub_self]; rfl
        refine lv_iconst (v := 1) hx hb dX1_readMask_50 (by decide) ?_
        exact zzret hend hx hb hr hlk hK hP hD hS dX1_readMask_51 rfl (by rw [hd]; first | rfl | (simp only [hi8, decide_false]; rfl)) (by rw [hd, hv])
      · have hk2 : i < 8 := Nat.lt_of_not_le (fun z => c_1 (nI_le (a := 8) z (by omega)))
        refine lv_aload_n hx hb dX1_readMask_8 rfl (lv_at hl 0 rfl) ?_
        refine lv_bipush (v := 49) hx hb dX1_readMask_9 (by decide) ?_
        refine zcV (As := [.int 49]) (rest := []) [0, 1, 2] 0 hg.1.1 ⟨hx, hb, hml, hown, hts⟩ (c_X1_digitUpTo hg l D cy ic oa fa sa kc (he + i) o8 b8 ml nn bx mm 49 (by omega) (by first | assumption | omega) (by first | assumption | omega) (by first | assumption | omega)) (cwV 1 hts gX1_readMask_X1_digitUpTo rfl rfl rfl (by decide +kernel) ⟨Nat.le_of_ble_eq_true rfl, Nat.le_of_ble_eq_true rfl⟩) hG hK hP hD hS hA rfl rfl rfl rfl rfl rfl hl.1 rfl (Nat.le_of_ble_eq_true rfl) dX1_readMask_11 ⟨Nat.zero_le _, Nat.zero_le _⟩ (fun H locs hP hD hS => ?_)
        have hP : va_P D vwCl [(ic, .inr (5, [.ref o8, .ref oa, .ref fa, .ref sa, .int (nI kc), .int (nI (he + i))])), (o8, .inr (1, [.ref b8, .int 0, .int ml, .int (nI nn)])), (b8, .inl (cy 1, mm, .inl bx)), (fa, .inl (cy 0, 60, .inl (upd fi k a)))] H := hP
        have hD : va_D A [(ic, .inr (5, [.ref o8, .ref oa, .ref fa, .ref sa, .int (nI kc), .int (nI (he + i))])), (o8, .inr (1, [.ref b8, .int 0, .int ml, .int (nI nn)])), (b8, .inl (cy 1, mm, .inl bx)), (fa, .inl (cy 0, 60, .inl (upd fi k a)))] := hD
        refine lv_istore_n (lv' := [(3, .int (zdu bx nn (he + i) 49)), (0, .ref ic), (1, .int (nI k)), (2, .int (nI i))]) hx hb dX1_readMask_14 rfl hl (by decide) rfl (fun ls hl => ?_)
        refine lv_iload_n hx hb dX1_readMask_15 rfl (lv_at hl 0 rfl) ?_
        refine lv_iconst (v := (-1)) hx hb dX1_readMask_16 (by decide) ?_
        refine lv_icmp_ne (tgt := 22) hx hb dX1_readMask_17 (by decide) (fun c_2 => ?_) (fun c_2 => ?_)
        · have hdg : zqs bx nn (he + i) = 48 ∨ zqs bx nn (he + i) = 49 := zdu_1 c_2
          refine lv_aload_n hx hb dX1_readMask_22 rfl (lv_at hl 1 rfl) ?_
          refine va_get (D := D) (ci := 5) (v := .ref fa) (C := RX1) (T := TX1) (N := 6) hx hb hts in_RX1 hown hK hP 0 rfl rfl 2 (by decide) (hts _ (List.mem_of_getElem? (i := 1) rfl)) (fun _ h9 => h9) rfl dX1_readMask_23 ?_
          refine lv_iload_n hx hb dX1_readMask_26 rfl (lv_at hl 2 rfl) ?_
          refine lv_dup2_11 hx hb dX1_readMask_27 rfl rfl ?_
          refine ziald 3 0 k hx hb hK hP rfl rfl (by omega) (z_lt rfl) dX1_readMask_28 ?_
          refine lv_iload_n hx hb dX1_readMask_29 rfl (lv_at hl 0 rfl) ?_
          refine lv_iload_n hx hb dX1_readMask_30 rfl (lv_at hl 3 rfl) ?_
          refine lv_ishl hx hb dX1_readMask_31 ?_
          refine lv_ior hx hb dX1_readMask_32 ?_
          refine ziast 3 0 k hx hb hK hP hD hS rfl rfl (by omega) (z_lt rfl) dX1_readMask_33 (fun H locs hP hD hS => ?_)
          have hP : va_P D vwCl [(ic, .inr (5, [.ref o8, .ref oa, .ref fa, .ref sa, .int (nI kc), .int (nI (he + i))])), (o8, .inr (1, [.ref b8, .int 0, .int ml, .int (nI nn)])), (b8, .inl (cy 1, mm, .inl bx)), (fa, .inl (cy 0, 60, .inl (upd (upd fi k a) k (((upd fi k a) k) ||| ((zdu bx nn (he + i) 49) <<< ((nI i) &&& 31))))))] H := hP
          have hD : va_D A [(ic, .inr (5, [.ref o8, .ref oa, .ref fa, .ref sa, .int (nI kc), .int (nI (he + i))])), (o8, .inr (1, [.ref b8, .int 0, .int ml, .int (nI nn)])), (b8, .inl (cy 1, mm, .inl bx)), (fa, .inl (cy 0, 60, .inl (upd (upd fi k a) k (((upd fi k a) k) ||| ((zdu bx nn (he + i) 49) <<< ((nI i) &&& 31))))))] := hD
          refine lv_aload_n hx hb dX1_readMask_34 rfl (lv_at hl 1 rfl) ?_
          refine lv_dup hx hb dX1_readMask_35 rfl ?_
          refine va_get (D := D) (ci := 5) (v := .int (nI (he + i))) (C := RX1) (T := TX1) (N := 6) hx hb hts in_RX1 hown hK hP 0 rfl rfl 5 (by decide) (hts _ (List.mem_of_getElem? (i := 2) rfl)) (fun _ h9 => h9) rfl dX1_readMask_36 ?_
          refine lv_iconst (v := 1) hx hb dX1_readMask_39 (by decide) ?_
          refine lv_iadd hx hb dX1_readMask_40 ?_
          refine z_top (y := nI ((he + i) + 1)) (nI_add (he + i) 1) ?_
          refine va_put (D := D) (ci := 5) (v := .int (nI ((he + i) + 1))) (ty := .int) (C := RX1) (T := TX1) (N := 6) hx hb hts in_RX1 tyX1 tyX1_ok nmX1 hown hK hP hD hS 0 rfl rfl 5 (by decide) (hts _ (List.mem_of_getElem? (i := 2) rfl)) (fun _ h9 => h9) rfl (by decide +kernel) rfl rfl (Nat.le_of_ble_eq_true rfl) dX1_readMask_41 (fun H locs hP hD hS => ?_)
          have hP : va_P D vwCl [(ic, .inr (5, [.ref o8, .ref oa, .ref fa, .ref sa, .int (nI kc), .int (nI ((he + i) + 1))])), (o8, .inr (1, [.ref b8, .int 0, .int ml, .int (nI nn)])), (b8, .inl (cy 1, mm, .inl bx)), (fa, .inl (cy 0, 60, .inl (upd (upd fi k a) k (((upd fi k a) k) ||| ((zdu bx nn (he + i) 49) <<< ((nI i) &&& 31))))))] H := hP
          have hD : va_D A [(ic, .inr (5, [.ref o8, .ref oa, .ref fa, .ref sa, .int (nI kc), .int (nI ((he + i) + 1))])), (o8, .inr (1, [.ref b8, .int 0, .int ml, .int (nI nn)])), (b8, .inl (cy 1, mm, .inl bx)), (fa, .inl (cy 0, 60, .inl (upd (upd fi k a) k (((upd fi k a) k) ||| ((zdu bx nn (he + i) 49) <<< ((nI i) &&& 31))))))] := hD
          refine lv_iinc (v := nI (i + 1)) (lv' := [(2, .int (nI (i + 1))), (3, .int (zdu bx nn (he + i) 49)), (0, .ref ic), (1, .int (nI k))]) hx hb dX1_readMask_44 hl (k := 3) rfl (by rw [show Int32.ofInt 1 = nI 1 from rfl, nI_add]) (by decide) rfl (fun ls hl => ?_)
          refine lv_goto (tgt := 2) hx hb dX1_readMask_47 (by decide) ?_
          exact ih2 (i + 1) (a ||| (if zqs bx nn (he + i) = 49 then 1 <<< (nI i &&& 31) else 0)) (nI ((he + i) + 1)) (upd (upd fi k a) k (((upd fi k a) k) ||| ((zdu bx nn (he + i) 49) <<< ((nI i) &&& 31)))) (by omega) (by rw [hN, show 8 - i = (8 - (i + 1)) + 1 by omega, zkN, if_pos hdg]; first | rfl | omega | (rw [Nat.add_assoc he i 1]; first | rfl | omega)) (by rw [hV, show 8 - i = (8 - (i + 1)) + 1 by omega, zkM, if_pos hdg, Nat.add_assoc he i 1]) (by omega) (by first | rfl | rw [upd_s, upd_u, zdu_m hdg]) (by first | rfl | rw [upd_s, upd_u, zdu_m hdg]) H locs hP hD hS ls (lv_sub hl [2, 3, 0] rfl)
        · have hnd : ¬ (zqs bx nn (he + i) = 48 ∨ zqs bx nn (he + i) = 49) := zdu_0 (by simpa using c_2)
          have hd : zkN bx nn 8 he = i := by rw [hN, show 8 - i = (8 - (i + 1)) + 1 by omega, zkN, if_neg hnd]; rfl
          have hv : zkM bx nn 8 he 0 0 = a := by rw [hV, show 8 - i = (8 - (i + 1)) + 1 by omega, zkM, if_neg hnd]
          have hi8 : ¬ i = 8 := by omega
          refine lv_iconst (v := 0) hx hb dX1_readMask_20 (by decide) ?_
          exact zzret hend hx hb hr hlk hK hP hD hS dX1_readMask_21 rfl (by rw [hd]; first | rfl | (simp only [hi8, decide_false]; rfl)) (by rw [hd, hv])
  exact L2 (8 - 0 + 1) 0 0 (nI he) (upd fi k 0) (by omega) (by simp) rfl (Nat.lt_succ_self _) (by rfl) rfl s.heap [] hP hD hS ls (lv_sub hl [1, 2, 0] rfl)

abbrev rmX1_readCommand_r99 : Room := { frames := 7, cells := 0, slots := 0, locals := 156 }
set_option maxHeartbeats 4000000 in
set_option maxRecDepth 100000 in
theorem c_X1_readCommand_r99 {G : zG} (hg : zGJ G) (l : Launch) (D : va_G) (cy : Nat → ClassId) (ic : Nat) (oa : Nat) (fa : Nat) (sa : Nat) (kc : Nat) (he : Nat) (o8 : Nat) (b8 : Nat) (ml : Int32) (nn : Nat) (bx : Nat → Int32) (mm : Nat) (ak : Nat) (av : Nat) (oo : Nat → Int32) (fi : Nat → Int32) (se : Nat → Int32) (k : Nat) (hhe : he ≤ 200) (hnm : nn ≤ mm) (hmm : mm ≤ 100) (hch : ∀ j, j < nn → zch (bx j)) (hgl : ∀ (A : Nat → Prop) (U : State), G A U → zLit ak av A U) (hk : k < 60) (hhe6 : he ≤ 60) (hc : zqs bx nn he = 99) : zM G D vwCl (zT cy) l yX1_readCommand wsX1_readCommand rmX1_readCommand_r99 [.ref ic, .int (nI k)] [(ic, .inr (5, [.ref o8, .ref oa, .ref fa, .ref sa, .int (nI kc), .int (nI he)])), (o8, .inr (1, [.ref b8, .int 0, .int ml, .int (nI nn)])), (b8, .inl (cy 1, mm, .inl bx)), (oa, .inl (cy 0, 60, .inl oo)), (fa, .inl (cy 0, 60, .inl fi)), (sa, .inl (cy 0, 60, .inl se))] (some (.int (zI (!(zbW bx nn ((he + 1) + zdN bx nn 2 (he + 1)) (decide (zdN bx nn 2 (he + 1) = 0)) 45))))) [(ic, .inr (5, [.ref o8, .ref oa, .ref fa, .ref sa, .int (nI kc), .int (nI (zbH bx nn ((he + 1) + zdN bx nn 2 (he + 1)) (decide (zdN bx nn 2 (he + 1) = 0)) 45))])), (o8, .inr (1, [.ref b8, .int 0, .int ml, .int (nI nn)])), (b8, .inl (cy 1, mm, .inl bx)), (oa, .inl (cy 0, 60, .inl (upd oo k 99))), (fa, .inl (cy 0, 60, .inl (upd fi k (zNu bx nn 2 (he + 1))))), (sa, .inl (cy 0, 60, .inl (upd se k (zs2 bx nn ((he + 1) + zdN bx nn 2 (he + 1)) (decide (zdN bx nn 2 (he + 1) = 0)) 45))))] := by
  refine zM_of (cc := cX1_readCommand) (maxL := 2) (ret := (some .boolean)) (by decide) rfl (Nat.le_of_ble_eq_true rfl) ?_
  intro p e s m below meth c A Q hend hx hb hml hr hts hown hlk hG hK hP hD hA hS ls hl
  have hown : s.vm.findClass RX1 = some m.cls := hown
  have in_RX1 : ∀ w ∈ u_ws RX1 TX1 6, w ∈ wsX1_readCommand := by decide +kernel
  have hl : lv_has ls 2 [(0, .ref ic), (1, .int (nI k))] := hl
  have hlt : he < nn := zqs_lt hc (by decide)
  have hb0 : bx he = 99 := by have h9 := hc; rw [zqs, if_pos hlt] at h9; exact h9
  refine lv_aload_n hx hb dX1_readCommand_0 rfl (lv_at hl 0 rfl) ?_
  refine va_get (D := D) (ci := 5) (v := .int (nI he)) (C := RX1) (T := TX1) (N := 6) hx hb hts in_RX1 hown hK hP 0 rfl rfl 5 (by decide) (hts _ (List.mem_of_getElem? (i := 1) rfl)) (fun _ h9 => h9) rfl dX1_readCommand_1 ?_
  refine lv_aload_n hx hb dX1_readCommand_4 rfl (lv_at hl 0 rfl) ?_
  refine va_get (D := D) (ci := 5) (v := .ref o8) (C := RX1) (T := TX1) (N := 6) hx hb hts in_RX1 hown hK hP 0 rfl rfl 0 (by decide) (hts _ (List.mem_of_getElem? (i := 2) rfl)) (fun _ h9 => h9) rfl dX1_readCommand_5 ?_
  refine zcV (As := []) (rest := [.int (nI he)]) [1] 1 hg.1.1 ⟨hx, hb, hml, hown, hts⟩ (c_J4_length_8abf5 hg.1 l D cy o8 b8 ml nn) (cwV 0 hts gX1_readCommand_J4_length_8abf5 rfl rfl rfl (by decide +kernel) ⟨Nat.le_of_ble_eq_true rfl, Nat.le_of_ble_eq_true rfl⟩) hG hK hP hD hS hA rfl rfl rfl rfl rfl rfl hl.1 rfl (Nat.le_of_ble_eq_true rfl) dX1_readCommand_8 ⟨Nat.zero_le _, Nat.zero_le _⟩ (fun H locs hP hD hS => ?_)
  have hP : va_P D vwCl [(ic, .inr (5, [.ref o8, .ref oa, .ref fa, .ref sa, .int (nI kc), .int (nI he)])), (o8, .inr (1, [.ref b8, .int 0, .int ml, .int (nI nn)])), (b8, .inl (cy 1, mm, .inl bx)), (oa, .inl (cy 0, 60, .inl oo)), (fa, .inl (cy 0, 60, .inl fi)), (sa, .inl (cy 0, 60, .inl se))] H := hP
  have hD : va_D A [(ic, .inr (5, [.ref o8, .ref oa, .ref fa, .ref sa, .int (nI kc), .int (nI he)])), (o8, .inr (1, [.ref b8, .int 0, .int ml, .int (nI nn)])), (b8, .inl (cy 1, mm, .inl bx)), (oa, .inl (cy 0, 60, .inl oo)), (fa, .inl (cy 0, 60, .inl fi)), (sa, .inl (cy 0, 60, .inl se))] := hD
  refine lv_icmp_ge (tgt := 33) hx hb dX1_readCommand_11 (by decide) (fun c_1 => ?_) (fun c_1 => ?_)
  · exact absurd ((nI_leI (by omega) (by omega)).mp c_1) (Nat.not_le.mpr hlt)
  · refine va_ldcS hx hb hown (hgl A s hG).1 dX1_readCommand_14 ?_
    refine lv_aload_n hx hb dX1_readCommand_16 rfl (lv_at hl 0 rfl) ?_
    refine va_get (D := D) (ci := 5) (v := .ref o8) (C := RX1) (T := TX1) (N := 6) hx hb hts in_RX1 hown hK hP 0 rfl rfl 0 (by decide) (hts _ (List.mem_of_getElem? (i := 2) rfl)) (fun _ h9 => h9) rfl dX1_readCommand_17 ?_
    refine lv_aload_n hx hb dX1_readCommand_20 rfl (lv_at hl 0 rfl) ?_
    refine va_get (D := D) (ci := 5) (v := .int (nI he)) (C := RX1) (T := TX1) (N := 6) hx hb hts in_RX1 hown hK hP 0 rfl rfl 5 (by decide) (hts _ (List.mem_of_getElem? (i := 1) rfl)) (fun _ h9 => h9) rfl dX1_readCommand_21 ?_
    refine zcV (As := [.int (nI he)]) (rest := [.ref ak]) [1, 2] 1 hg.1.1 ⟨hx, hb, hml, hown, hts⟩ (c_J4_charAt_5068e hg l D cy o8 b8 ml nn bx mm he (by first | assumption | omega) (by first | assumption | omega) (by first | assumption | omega) (by first | assumption | omega)) (cwV 1 hts gX1_readCommand_J4_charAt_5068e rfl rfl rfl (by decide +kernel) ⟨Nat.le_of_ble_eq_true rfl, Nat.le_of_ble_eq_true rfl⟩) hG hK hP hD hS hA rfl rfl rfl rfl rfl rfl hl.1 rfl (Nat.le_of_ble_eq_true rfl) dX1_readCommand_24 ⟨Nat.zero_le _, Nat.zero_le _⟩ (fun H locs hP hD hS => ?_)
    have hP : va_P D vwCl [(ic, .inr (5, [.ref o8, .ref oa, .ref fa, .ref sa, .int (nI kc), .int (nI he)])), (o8, .inr (1, [.ref b8, .int 0, .int ml, .int (nI nn)])), (b8, .inl (cy 1, mm, .inl bx)), (oa, .inl (cy 0, 60, .inl oo)), (fa, .inl (cy 0, 60, .inl fi)), (sa, .inl (cy 0, 60, .inl se))] H := hP
    have hD : va_D A [(ic, .inr (5, [.ref o8, .ref oa, .ref fa, .ref sa, .int (nI kc), .int (nI he)])), (o8, .inr (1, [.ref b8, .int 0, .int ml, .int (nI nn)])), (b8, .inl (cy 1, mm, .inl bx)), (oa, .inl (cy 0, 60, .inl oo)), (fa, .inl (cy 0, 60, .inl fi)), (sa, .inl (cy 0, 60, .inl se))] := hD
    refine z_top (y := 99) (hb0) ?_
    refine zcVK (C := RJ0) (As := [.int 99]) (rest := []) [] hg.1.1 ⟨hx, hb, hml, hown, hts⟩ (c_J0_indexOf_0f7a4 hg l D cy ak av 99 (by first | assumption | omega) (by decide) (by decide) (by decide)) (cwV 1 hts gX1_readCommand_J0_indexOf_0f7a4 rfl rfl rfl (by decide +kernel) ⟨Nat.le_of_ble_eq_true rfl, Nat.le_of_ble_eq_true rfl⟩) (hgl A s hG).2.1 hG hK hP hD hS hA rfl rfl rfl  rfl hl.1 rfl (Nat.le_of_ble_eq_true rfl) dX1_readCommand_27 ⟨Nat.zero_le _, Nat.zero_le _⟩ (fun H locs hP hD hS => ?_)
    have hP : va_P D vwCl [(ic, .inr (5, [.ref o8, .ref oa, .ref fa, .ref sa, .int (nI kc), .int (nI he)])), (o8, .inr (1, [.ref b8, .int 0, .int ml, .int (nI nn)])), (b8, .inl (cy 1, mm, .inl bx)), (oa, .inl (cy 0, 60, .inl oo)), (fa, .inl (cy 0, 60, .inl fi)), (sa, .inl (cy 0, 60, .inl se))] H := hP
    have hD : va_D A [(ic, .inr (5, [.ref o8, .ref oa, .ref fa, .ref sa, .int (nI kc), .int (nI he)])), (o8, .inr (1, [.ref b8, .int 0, .int ml, .int (nI nn)])), (b8, .inl (cy 1, mm, .inl bx)), (oa, .inl (cy 0, 60, .inl oo)), (fa, .inl (cy 0, 60, .inl fi)), (sa, .inl (cy 0, 60, .inl se))] := hD
    refine z_top (y := 0) (by decide) ?_
    refine lv_if_ge (tgt := 35) hx hb dX1_readCommand_30 (by decide) (fun c_2 => ?_) (fun c_2 => ?_)
    · refine lv_aload_n hx hb dX1_readCommand_35 rfl (lv_at hl 0 rfl) ?_
      refine va_get (D := D) (ci := 5) (v := .ref oa) (C := RX1) (T := TX1) (N := 6) hx hb hts in_RX1 hown hK hP 0 rfl rfl 1 (by decide) (hts _ (List.mem_of_getElem? (i := 3) rfl)) (fun _ h9 => h9) rfl dX1_readCommand_36 ?_
      refine lv_iload_n hx hb dX1_readCommand_39 rfl (lv_at hl 1 rfl) ?_
      refine lv_aload_n hx hb dX1_readCommand_40 rfl (lv_at hl 0 rfl) ?_
      refine va_get (D := D) (ci := 5) (v := .ref o8) (C := RX1) (T := TX1) (N := 6) hx hb hts in_RX1 hown hK hP 0 rfl rfl 0 (by decide) (hts _ (List.mem_of_getElem? (i := 2) rfl)) (fun _ h9 => h9) rfl dX1_readCommand_41 ?_
      refine lv_aload_n hx hb dX1_readCommand_44 rfl (lv_at hl 0 rfl) ?_
      refine va_get (D := D) (ci := 5) (v := .int (nI he)) (C := RX1) (T := TX1) (N := 6) hx hb hts in_RX1 hown hK hP 0 rfl rfl 5 (by decide) (hts _ (List.mem_of_getElem? (i := 1) rfl)) (fun _ h9 => h9) rfl dX1_readCommand_45 ?_
      refine zcV (As := [.int (nI he)]) (rest := [.int (nI k), .ref oa]) [1, 2] 1 hg.1.1 ⟨hx, hb, hml, hown, hts⟩ (c_J4_charAt_5068e hg l D cy o8 b8 ml nn bx mm he (by first | assumption | omega) (by first | assumption | omega) (by first | assumption | omega) (by first | assumption | omega)) (cwV 1 hts gX1_readCommand_J4_charAt_5068e rfl rfl rfl (by decide +kernel) ⟨Nat.le_of_ble_eq_true rfl, Nat.le_of_ble_eq_true rfl⟩) hG hK hP hD hS hA rfl rfl rfl rfl rfl rfl hl.1 rfl (Nat.le_of_ble_eq_true rfl) dX1_readCommand_48 ⟨Nat.zero_le _, Nat.zero_le _⟩ (fun H locs hP hD hS => ?_)
      have hP : va_P D vwCl [(ic, .inr (5, [.ref o8, .ref oa, .ref fa, .ref sa, .int (nI kc), .int (nI he)])), (o8, .inr (1, [.ref b8, .int 0, .int ml, .int (nI nn)])), (b8, .inl (cy 1, mm, .inl bx)), (oa, .inl (cy 0, 60, .inl oo)), (fa, .inl (cy 0, 60, .inl fi)), (sa, .inl (cy 0, 60, .inl se))] H := hP
      have hD : va_D A [(ic, .inr (5, [.ref o8, .ref oa, .ref fa, .ref sa, .int (nI kc), .int (nI he)])), (o8, .inr (1, [.ref b8, .int 0, .int ml, .int (nI nn)])), (b8, .inl (cy 1, mm, .inl bx)), (oa, .inl (cy 0, 60, .inl oo)), (fa, .inl (cy 0, 60, .inl fi)), (sa, .inl (cy 0, 60, .inl se))] := hD
      refine z_top (y := 99) (hb0) ?_
      refine ziast 3 0 k hx hb hK hP hD hS rfl rfl (by omega) (z_lt rfl) dX1_readCommand_51 (fun H locs hP hD hS => ?_)
      have hP : va_P D vwCl [(ic, .inr (5, [.ref o8, .ref oa, .ref fa, .ref sa, .int (nI kc), .int (nI he)])), (o8, .inr (1, [.ref b8, .int 0, .int ml, .int (nI nn)])), (b8, .inl (cy 1, mm, .inl bx)), (oa, .inl (cy 0, 60, .inl (upd oo k 99))), (fa, .inl (cy 0, 60, .inl fi)), (sa, .inl (cy 0, 60, .inl se))] H := hP
      have hD : va_D A [(ic, .inr (5, [.ref o8, .ref oa, .ref fa, .ref sa, .int (nI kc), .int (nI he)])), (o8, .inr (1, [.ref b8, .int 0, .int ml, .int (nI nn)])), (b8, .inl (cy 1, mm, .inl bx)), (oa, .inl (cy 0, 60, .inl (upd oo k 99))), (fa, .inl (cy 0, 60, .inl fi)), (sa, .inl (cy 0, 60, .inl se))] := hD
      refine lv_aload_n hx hb dX1_readCommand_52 rfl (lv_at hl 0 rfl) ?_
      refine va_get (D := D) (ci := 5) (v := .ref fa) (C := RX1) (T := TX1) (N := 6) hx hb hts in_RX1 hown hK hP 0 rfl rfl 2 (by decide) (hts _ (List.mem_of_getElem? (i := 4) rfl)) (fun _ h9 => h9) rfl dX1_readCommand_53 ?_
      refine lv_iload_n hx hb dX1_readCommand_56 rfl (lv_at hl 1 rfl) ?_
      refine lv_iconst (v := 0) hx hb dX1_readCommand_57 (by decide) ?_
      refine ziast 4 0 k hx hb hK hP hD hS rfl rfl (by omega) (z_lt rfl) dX1_readCommand_58 (fun H locs hP hD hS => ?_)
      have hP : va_P D vwCl [(ic, .inr (5, [.ref o8, .ref oa, .ref fa, .ref sa, .int (nI kc), .int (nI he)])), (o8, .inr (1, [.ref b8, .int 0, .int ml, .int (nI nn)])), (b8, .inl (cy 1, mm, .inl bx)), (oa, .inl (cy 0, 60, .inl (upd oo k 99))), (fa, .inl (cy 0, 60, .inl (upd fi k 0))), (sa, .inl (cy 0, 60, .inl se))] H := hP
      have hD : va_D A [(ic, .inr (5, [.ref o8, .ref oa, .ref fa, .ref sa, .int (nI kc), .int (nI he)])), (o8, .inr (1, [.ref b8, .int 0, .int ml, .int (nI nn)])), (b8, .inl (cy 1, mm, .inl bx)), (oa, .inl (cy 0, 60, .inl (upd oo k 99))), (fa, .inl (cy 0, 60, .inl (upd fi k 0))), (sa, .inl (cy 0, 60, .inl se))] := hD
      refine lv_aload_n hx hb dX1_readCommand_59 rfl (lv_at hl 0 rfl) ?_
      refine va_get (D := D) (ci := 5) (v := .ref sa) (C := RX1) (T := TX1) (N := 6) hx hb hts in_RX1 hown hK hP 0 rfl rfl 3 (by decide) (hts _ (List.mem_of_getElem? (i := 5) rfl)) (fun _ h9 => h9) rfl dX1_readCommand_60 ?_
      refine lv_iload_n hx hb dX1_readCommand_63 rfl (lv_at hl 1 rfl) ?_
      refine lv_iconst (v := 0) hx hb dX1_readCommand_64 (by decide) ?_
      refine ziast 5 0 k hx hb hK hP hD hS rfl rfl (by omega) (z_lt rfl) dX1_readCommand_65 (fun H locs hP hD hS => ?_)
      have hP : va_P D vwCl [(ic, .inr (5, [.ref o8, .ref oa, .ref fa, .ref sa, .int (nI kc), .int (nI he)])), (o8, .inr (1, [.ref b8, .int 0, .int ml, .int (nI nn)])), (b8, .inl (cy 1, mm, .inl bx)), (oa, .inl (cy 0, 60, .inl (upd oo k 99))), (fa, .inl (cy 0, 60, .inl (upd fi k 0))), (sa, .inl (cy 0, 60, .inl (upd se k 0)))] H := hP
      have hD : va_D A [(ic, .inr (5, [.ref o8, .ref oa, .ref fa, .ref sa, .int (nI kc), .int (nI he)])), (o8, .inr (1, [.ref b8, .int 0, .int ml, .int (nI nn)])), (b8, .inl (cy 1, mm, .inl bx)), (oa, .inl (cy 0, 60, .inl (upd oo k 99))), (fa, .inl (cy 0, 60, .inl (upd fi k 0))), (sa, .inl (cy 0, 60, .inl (upd se k 0)))] := hD
      refine lv_aload_n hx hb dX1_readCommand_66 rfl (lv_at hl 0 rfl) ?_
      refine lv_dup hx hb dX1_readCommand_67 rfl ?_
      refine va_get (D := D) (ci := 5) (v := .int (nI he)) (C := RX1) (T := TX1) (N := 6) hx hb hts in_RX1 hown hK hP 0 rfl rfl 5 (by decide) (hts _ (List.mem_of_getElem? (i := 1) rfl)) (fun _ h9 => h9) rfl dX1_readCommand_68 ?_
      refine lv_iconst (v := 1) hx hb dX1_readCommand_71 (by decide) ?_
      refine lv_iadd hx hb dX1_readCommand_72 ?_
      refine z_top (y := nI (he + 1)) (nI_add he 1) ?_
      refine va_put (D := D) (ci := 5) (v := .int (nI (he + 1))) (ty := .int) (C := RX1) (T := TX1) (N := 6) hx hb hts in_RX1 tyX1 tyX1_ok nmX1 hown hK hP hD hS 0 rfl rfl 5 (by decide) (hts _ (List.mem_of_getElem? (i := 1) rfl)) (fun _ h9 => h9) rfl (by decide +kernel) rfl rfl (Nat.le_of_ble_eq_true rfl) dX1_readCommand_73 (fun H locs hP hD hS => ?_)
      have hP : va_P D vwCl [(ic, .inr (5, [.ref o8, .ref oa, .ref fa, .ref sa, .int (nI kc), .int (nI (he + 1))])), (o8, .inr (1, [.ref b8, .int 0, .int ml, .int (nI nn)])), (b8, .inl (cy 1, mm, .inl bx)), (oa, .inl (cy 0, 60, .inl (upd oo k 99))), (fa, .inl (cy 0, 60, .inl (upd fi k 0))), (sa, .inl (cy 0, 60, .inl (upd se k 0)))] H := hP
      have hD : va_D A [(ic, .inr (5, [.ref o8, .ref oa, .ref fa, .ref sa, .int (nI kc), .int (nI (he + 1))])), (o8, .inr (1, [.ref b8, .int 0, .int ml, .int (nI nn)])), (b8, .inl (cy 1, mm, .inl bx)), (oa, .inl (cy 0, 60, .inl (upd oo k 99))), (fa, .inl (cy 0, 60, .inl (upd fi k 0))), (sa, .inl (cy 0, 60, .inl (upd se k 0)))] := hD
      refine lv_aload_n hx hb dX1_readCommand_76 rfl (lv_at hl 0 rfl) ?_
      refine va_get (D := D) (ci := 5) (v := .ref oa) (C := RX1) (T := TX1) (N := 6) hx hb hts in_RX1 hown hK hP 0 rfl rfl 1 (by decide) (hts _ (List.mem_of_getElem? (i := 3) rfl)) (fun _ h9 => h9) rfl dX1_readCommand_77 ?_
      refine lv_iload_n hx hb dX1_readCommand_80 rfl (lv_at hl 1 rfl) ?_
      refine ziald 3 0 k hx hb hK hP rfl rfl (by omega) (z_lt rfl) dX1_readCommand_81 ?_
      refine z_top (y := 99) (upd_s) ?_
      refine lv_tableIn (off := 108) (tgt := 190) hx hb dX1_readCommand_82 (by decide) (by decide) (by decide) (by decide) ?_
      refine lv_aload_n hx hb dX1_readCommand_190 rfl (lv_at hl 0 rfl) ?_
      refine lv_iload_n hx hb dX1_readCommand_191 rfl (lv_at hl 1 rfl) ?_
      refine lv_iconst (v := 2) hx hb dX1_readCommand_192 (by decide) ?_
      refine z_top (y := nI 2) (rfl) ?_
      refine zcV (As := [.int (nI k), .int (nI 2)]) (rest := []) [0, 1, 2, 4] 0 hg.1.1 ⟨hx, hb, hml, hown, hts⟩ (c_X1_readFirst hg l D cy ic oa fa sa kc (he + 1) o8 b8 ml nn bx mm 2 k (upd fi k 0) (by first | assumption | decide | omega) (by first | assumption | decide | omega) (by first | assumption | decide | omega) (by first | assumption | decide | omega) (by first | assumption | decide | omega) (by first | assumption | decide | omega) (by first | assumption | decide | omega) (by first | assumption | decide | omega)) (cwV 2 hts gX1_readCommand_X1_readFirst rfl rfl rfl (by decide +kernel) ⟨Nat.le_of_ble_eq_true rfl, Nat.le_of_ble_eq_true rfl⟩) hG hK hP hD hS hA rfl rfl (Eq.trans (b := [ic, o8, b8, fa]) rfl rfl) rfl rfl rfl hl.1 rfl (Nat.le_of_ble_eq_true rfl) dX1_readCommand_193 ⟨Nat.zero_le _, Nat.zero_le _⟩ (fun H locs hP hD hS => ?_)
      have hP : va_P D vwCl [(ic, .inr (5, [.ref o8, .ref oa, .ref fa, .ref sa, .int (nI kc), .int (nI ((he + 1) + zdN bx nn 2 (he + 1)))])), (o8, .inr (1, [.ref b8, .int 0, .int ml, .int (nI nn)])), (b8, .inl (cy 1, mm, .inl bx)), (oa, .inl (cy 0, 60, .inl (upd oo k 99))), (fa, .inl (cy 0, 60, .inl (upd (upd fi k 0) k (zNu bx nn 2 (he + 1))))), (sa, .inl (cy 0, 60, .inl (upd se k 0)))] H := hP
      have hD : va_D A [(ic, .inr (5, [.ref o8, .ref oa, .ref fa, .ref sa, .int (nI kc), .int (nI ((he + 1) + zdN bx nn 2 (he + 1)))])), (o8, .inr (1, [.ref b8, .int 0, .int ml, .int (nI nn)])), (b8, .inl (cy 1, mm, .inl bx)), (oa, .inl (cy 0, 60, .inl (upd oo k 99))), (fa, .inl (cy 0, 60, .inl (upd (upd fi k 0) k (zNu bx nn 2 (he + 1))))), (sa, .inl (cy 0, 60, .inl (upd se k 0)))] := hD
      refine lv_if_eq (tgt := 221) hx hb dX1_readCommand_196 (by decide) (fun c_3 => ?_) (fun c_3 => ?_)
      · replace c_3 := zI0 c_3
        have h0 : zdN bx nn 2 (he + 1) = 0 := by simpa using c_3
        refine lv_iconst (v := 0) hx hb dX1_readCommand_221 (by decide) ?_
        exact zzret hend hx hb hr hlk hK hP hD hS dX1_readCommand_222 rfl (by first | (simp [zbW, zmW, zI, h0]; done) | (simp [zbW, zmH, zI, h0, hm]; done) | (simp_all [zbW, zI, zmH]; done)) (by first | (simp only [zbH, zs2, zmH, zmW, h0, decide_true, decide_false, Bool.true_or, ↓reduceIte, upd_u]; done) | (simp [zbH, zs2, upd_u, zmH, hm, h0]; done) | (simp_all [zbH, zs2, upd_u, zmH]; done))
      · replace c_3 := zI1 c_3
        have h0 : ¬ zdN bx nn 2 (he + 1) = 0 := by simpa using c_3
        refine lv_aload_n hx hb dX1_readCommand_199 rfl (lv_at hl 0 rfl) ?_
        refine lv_bipush (v := 45) hx hb dX1_readCommand_200 (by decide) ?_
        refine zcV (As := [.int 45]) (rest := []) [0, 1, 2] 0 hg.1.1 ⟨hx, hb, hml, hown, hts⟩ (c_X1_skip hg l D cy ic oa fa sa kc ((he + 1) + zdN bx nn 2 (he + 1)) o8 b8 ml nn bx mm 45 (by have := zdN_le bx nn 2 (he + 1); have := zmH_le bx nn ((he + 1) + zdN bx nn 2 (he + 1)) false 45; first | assumption | decide | omega) (by have := zdN_le bx nn 2 (he + 1); have := zmH_le bx nn ((he + 1) + zdN bx nn 2 (he + 1)) false 45; first | assumption | decide | omega) (by have := zdN_le bx nn 2 (he + 1); have := zmH_le bx nn ((he + 1) + zdN bx nn 2 (he + 1)) false 45; first | assumption | decide | omega) (by have := zdN_le bx nn 2 (he + 1); have := zmH_le bx nn ((he + 1) + zdN bx nn 2 (he + 1)) false 45; first | assumption | decide | omega) (by have := zdN_le bx nn 2 (he + 1); have := zmH_le bx nn ((he + 1) + zdN bx nn 2 (he + 1)) false 45; first | assumption | decide | omega)) (cwV 1 hts gX1_readCommand_X1_skip rfl rfl rfl (by decide +kernel) ⟨Nat.le_of_ble_eq_true rfl, Nat.le_of_ble_eq_true rfl⟩) hG hK hP hD hS hA rfl rfl (Eq.trans (b := [ic, o8, b8]) rfl rfl) rfl rfl rfl hl.1 rfl (Nat.le_of_ble_eq_true rfl) dX1_readCommand_202 ⟨Nat.zero_le _, Nat.zero_le _⟩ (fun H locs hP hD hS => ?_)
        have hP : va_P D vwCl [(ic, .inr (5, [.ref o8, .ref oa, .ref fa, .ref sa, .int (nI kc), .int (nI (zmH bx nn ((he + 1) + zdN bx nn 2 (he + 1)) false 45))])), (o8, .inr (1, [.ref b8, .int 0, .int ml, .int (nI nn)])), (b8, .inl (cy 1, mm, .inl bx)), (oa, .inl (cy 0, 60, .inl (upd oo k 99))), (fa, .inl (cy 0, 60, .inl (upd (upd fi k 0) k (zNu bx nn 2 (he + 1))))), (sa, .inl (cy 0, 60, .inl (upd se k 0)))] H := hP
        have hD : va_D A [(ic, .inr (5, [.ref o8, .ref oa, .ref fa, .ref sa, .int (nI kc), .int (nI (zmH bx nn ((he + 1) + zdN bx nn 2 (he + 1)) false 45))])), (o8, .inr (1, [.ref b8, .int 0, .int ml, .int (nI nn)])), (b8, .inl (cy 1, mm, .inl bx)), (oa, .inl (cy 0, 60, .inl (upd oo k 99))), (fa, .inl (cy 0, 60, .inl (upd (upd fi k 0) k (zNu bx nn 2 (he + 1))))), (sa, .inl (cy 0, 60, .inl (upd se k 0)))] := hD
        refine lv_if_eq (tgt := 221) hx hb dX1_readCommand_205 (by decide) (fun c_4 => ?_) (fun c_4 => ?_)
        · replace c_4 := zI0 c_4
          have hm : zmW bx nn ((he + 1) + zdN bx nn 2 (he + 1)) false 45 = true := by simpa using c_4
          refine lv_iconst (v := 0) hx hb dX1_readCommand_221 (by decide) ?_
          exact zzret hend hx hb hr hlk hK hP hD hS dX1_readCommand_222 rfl (by first | (simp [zbW, zmW, zI, h0]; done) | (simp [zbW, zmH, zI, h0, hm]; done) | (simp_all [zbW, zI, zmH]; done)) (by first | (simp only [zbH, zs2, zmH, zmW, h0, decide_true, decide_false, Bool.true_or, ↓reduceIte, upd_u]; done) | (simp [zbH, zs2, upd_u, zmH, hm, h0]; done) | (simp_all [zbH, zs2, upd_u, zmH]; done))
        · replace c_4 := zI1 c_4
          have hm : zmW bx nn ((he + 1) + zdN bx nn 2 (he + 1)) false 45 = false := by simpa using c_4
          refine lv_aload_n hx hb dX1_readCommand_208 rfl (lv_at hl 0 rfl) ?_
          refine lv_iload_n hx hb dX1_readCommand_209 rfl (lv_at hl 1 rfl) ?_
          refine lv_iconst (v := 2) hx hb dX1_readCommand_210 (by decide) ?_
          refine z_top (y := nI 2) (rfl) ?_
          refine zcV (As := [.int (nI k), .int (nI 2)]) (rest := []) [0, 1, 2, 5] 0 hg.1.1 ⟨hx, hb, hml, hown, hts⟩ (c_X1_readSecond hg l D cy ic oa fa sa kc (zmH bx nn ((he + 1) + zdN bx nn 2 (he + 1)) false 45) o8 b8 ml nn bx mm 2 k (upd se k 0) (by have := zdN_le bx nn 2 (he + 1); have := zmH_le bx nn ((he + 1) + zdN bx nn 2 (he + 1)) false 45; first | assumption | decide | omega) (by have := zdN_le bx nn 2 (he + 1); have := zmH_le bx nn ((he + 1) + zdN bx nn 2 (he + 1)) false 45; first | assumption | decide | omega) (by have := zdN_le bx nn 2 (he + 1); have := zmH_le bx nn ((he + 1) + zdN bx nn 2 (he + 1)) false 45; first | assumption | decide | omega) (by have := zdN_le bx nn 2 (he + 1); have := zmH_le bx nn ((he + 1) + zdN bx nn 2 (he + 1)) false 45; first | assumption | decide | omega) (by have := zdN_le bx nn 2 (he + 1); have := zmH_le bx nn ((he + 1) + zdN bx nn 2 (he + 1)) false 45; first | assumption | decide | omega) (by have := zdN_le bx nn 2 (he + 1); have := zmH_le bx nn ((he + 1) + zdN bx nn 2 (he + 1)) false 45; first | assumption | decide | omega) (by have := zdN_le bx nn 2 (he + 1); have := zmH_le bx nn ((he + 1) + zdN bx nn 2 (he + 1)) false 45; first | assumption | decide | omega) (by have := zdN_le bx nn 2 (he + 1); have := zmH_le bx nn ((he + 1) + zdN bx nn 2 (he + 1)) false 45; first | assumption | decide | omega)) (cwV 2 hts gX1_readCommand_X1_readSecond rfl rfl rfl (by decide +kernel) ⟨Nat.le_of_ble_eq_true rfl, Nat.le_of_ble_eq_true rfl⟩) hG hK hP hD hS hA rfl rfl (Eq.trans (b := [ic, o8, b8, sa]) rfl rfl) rfl rfl rfl hl.1 rfl (Nat.le_of_ble_eq_true rfl) dX1_readCommand_211 ⟨Nat.zero_le _, Nat.zero_le _⟩ (fun H locs hP hD hS => ?_)
          have hP : va_P D vwCl [(ic, .inr (5, [.ref o8, .ref oa, .ref fa, .ref sa, .int (nI kc), .int (nI ((zmH bx nn ((he + 1) + zdN bx nn 2 (he + 1)) false 45) + zdN bx nn 2 (zmH bx nn ((he + 1) + zdN bx nn 2 (he + 1)) false 45)))])), (o8, .inr (1, [.ref b8, .int 0, .int ml, .int (nI nn)])), (b8, .inl (cy 1, mm, .inl bx)), (oa, .inl (cy 0, 60, .inl (upd oo k 99))), (fa, .inl (cy 0, 60, .inl (upd (upd fi k 0) k (zNu bx nn 2 (he + 1))))), (sa, .inl (cy 0, 60, .inl (upd (upd se k 0) k (zNu bx nn 2 (zmH bx nn ((he + 1) + zdN bx nn 2 (he + 1)) false 45)))))] H := hP
          have hD : va_D A [(ic, .inr (5, [.ref o8, .ref oa, .ref fa, .ref sa, .int (nI kc), .int (nI ((zmH bx nn ((he + 1) + zdN bx nn 2 (he + 1)) false 45) + zdN bx nn 2 (zmH bx nn ((he + 1) + zdN bx nn 2 (he + 1)) false 45)))])), (o8, .inr (1, [.ref b8, .int 0, .int ml, .int (nI nn)])), (b8, .inl (cy 1, mm, .inl bx)), (oa, .inl (cy 0, 60, .inl (upd oo k 99))), (fa, .inl (cy 0, 60, .inl (upd (upd fi k 0) k (zNu bx nn 2 (he + 1))))), (sa, .inl (cy 0, 60, .inl (upd (upd se k 0) k (zNu bx nn 2 (zmH bx nn ((he + 1) + zdN bx nn 2 (he + 1)) false 45)))))] := hD
          refine lv_if_eq (tgt := 221) hx hb dX1_readCommand_214 (by decide) (fun c_5 => ?_) (fun c_5 => ?_)
          · replace c_5 := zI0 c_5
            refine lv_iconst (v := 0) hx hb dX1_readCommand_221 (by decide) ?_
            exact zzret hend hx hb hr hlk hK hP hD hS dX1_readCommand_222 rfl (by first | (simp [zbW, zmW, zI, h0]; done) | (simp [zbW, zmH, zI, h0, hm]; done) | (simp_all [zbW, zI, zmH]; done)) (by first | (simp only [zbH, zs2, zmH, zmW, h0, decide_true, decide_false, Bool.true_or, ↓reduceIte, upd_u]; done) | (simp [zbH, zs2, upd_u, zmH, hm, h0]; done) | (simp_all [zbH, zs2, upd_u, zmH]; done))
          · replace c_5 := zI1 c_5
            refine lv_iconst (v := 1) hx hb dX1_readCommand_217 (by decide) ?_
            refine lv_goto (tgt := 222) hx hb dX1_readCommand_218 (by decide) ?_
            exact zzret hend hx hb hr hlk hK hP hD hS dX1_readCommand_222 rfl (by first | (simp [zbW, zmW, zI, h0]; done) | (simp [zbW, zmH, zI, h0, hm]; done) | (simp_all [zbW, zI, zmH]; done)) (by first | (simp only [zbH, zs2, zmH, zmW, h0, decide_true, decide_false, Bool.true_or, ↓reduceIte, upd_u]; done) | (simp [zbH, zs2, upd_u, zmH, hm, h0]; done) | (simp_all [zbH, zs2, upd_u, zmH]; done))
    · exact absurd c_2 (by decide)

abbrev rmX1_readCommand_r104 : Room := { frames := 7, cells := 0, slots := 0, locals := 156 }
set_option maxHeartbeats 4000000 in
set_option maxRecDepth 100000 in
theorem c_X1_readCommand_r104 {G : zG} (hg : zGJ G) (l : Launch) (D : va_G) (cy : Nat → ClassId) (ic : Nat) (oa : Nat) (fa : Nat) (sa : Nat) (kc : Nat) (he : Nat) (o8 : Nat) (b8 : Nat) (ml : Int32) (nn : Nat) (bx : Nat → Int32) (mm : Nat) (ak : Nat) (av : Nat) (oo : Nat → Int32) (fi : Nat → Int32) (se : Nat → Int32) (k : Nat) (hhe : he ≤ 200) (hnm : nn ≤ mm) (hmm : mm ≤ 100) (hch : ∀ j, j < nn → zch (bx j)) (hgl : ∀ (A : Nat → Prop) (U : State), G A U → zLit ak av A U) (hk : k < 60) (hhe6 : he ≤ 60) (hc : zqs bx nn he = 104) : zM G D vwCl (zT cy) l yX1_readCommand wsX1_readCommand rmX1_readCommand_r104 [.ref ic, .int (nI k)] [(ic, .inr (5, [.ref o8, .ref oa, .ref fa, .ref sa, .int (nI kc), .int (nI he)])), (o8, .inr (1, [.ref b8, .int 0, .int ml, .int (nI nn)])), (b8, .inl (cy 1, mm, .inl bx)), (oa, .inl (cy 0, 60, .inl oo)), (fa, .inl (cy 0, 60, .inl fi)), (sa, .inl (cy 0, 60, .inl se))] (some (.int (zI (!(decide (zdN bx nn 2 (he + 1) = 0)))))) [(ic, .inr (5, [.ref o8, .ref oa, .ref fa, .ref sa, .int (nI kc), .int (nI ((he + 1) + zdN bx nn 2 (he + 1)))])), (o8, .inr (1, [.ref b8, .int 0, .int ml, .int (nI nn)])), (b8, .inl (cy 1, mm, .inl bx)), (oa, .inl (cy 0, 60, .inl (upd oo k 104))), (fa, .inl (cy 0, 60, .inl (upd fi k (zNu bx nn 2 (he + 1))))), (sa, .inl (cy 0, 60, .inl (upd se k (0))))] := by
  refine zM_of (cc := cX1_readCommand) (maxL := 2) (ret := (some .boolean)) (by decide) rfl (Nat.le_of_ble_eq_true rfl) ?_
  intro p e s m below meth c A Q hend hx hb hml hr hts hown hlk hG hK hP hD hA hS ls hl
  have hown : s.vm.findClass RX1 = some m.cls := hown
  have in_RX1 : ∀ w ∈ u_ws RX1 TX1 6, w ∈ wsX1_readCommand := by decide +kernel
  have hl : lv_has ls 2 [(0, .ref ic), (1, .int (nI k))] := hl
  have hlt : he < nn := zqs_lt hc (by decide)
  have hb0 : bx he = 104 := by have h9 := hc; rw [zqs, if_pos hlt] at h9; exact h9
  refine lv_aload_n hx hb dX1_readCommand_0 rfl (lv_at hl 0 rfl) ?_
  refine va_get (D := D) (ci := 5) (v := .int (nI he)) (C := RX1) (T := TX1) (N := 6) hx hb hts in_RX1 hown hK hP 0 rfl rfl 5 (by decide) (hts _ (List.mem_of_getElem? (i := 1) rfl)) (fun _ h9 => h9) rfl dX1_readCommand_1 ?_
  refine lv_aload_n hx hb dX1_readCommand_4 rfl (lv_at hl 0 rfl) ?_
  refine va_get (D := D) (ci := 5) (v := .ref o8) (C := RX1) (T := TX1) (N := 6) hx hb hts in_RX1 hown hK hP 0 rfl rfl 0 (by decide) (hts _ (List.mem_of_getElem? (i := 2) rfl)) (fun _ h9 => h9) rfl dX1_readCommand_5 ?_
  refine zcV (As := []) (rest := [.int (nI he)]) [1] 1 hg.1.1 ⟨hx, hb, hml, hown, hts⟩ (c_J4_length_8abf5 hg.1 l D cy o8 b8 ml nn) (cwV 0 hts gX1_readCommand_J4_length_8abf5 rfl rfl rfl (by decide +kernel) ⟨Nat.le_of_ble_eq_true rfl, Nat.le_of_ble_eq_true rfl⟩) hG hK hP hD hS hA rfl rfl rfl rfl rfl rfl hl.1 rfl (Nat.le_of_ble_eq_true rfl) dX1_readCommand_8 ⟨Nat.zero_le _, Nat.zero_le _⟩ (fun H locs hP hD hS => ?_)
  have hP : va_P D vwCl [(ic, .inr (5, [.ref o8, .ref oa, .ref fa, .ref sa, .int (nI kc), .int (nI he)])), (o8, .inr (1, [.ref b8, .int 0, .int ml, .int (nI nn)])), (b8, .inl (cy 1, mm, .inl bx)), (oa, .inl (cy 0, 60, .inl oo)), (fa, .inl (cy 0, 60, .inl fi)), (sa, .inl (cy 0, 60, .inl se))] H := hP
  have hD : va_D A [(ic, .inr (5, [.ref o8, .ref oa, .ref fa, .ref sa, .int (nI kc), .int (nI he)])), (o8, .inr (1, [.ref b8, .int 0, .int ml, .int (nI nn)])), (b8, .inl (cy 1, mm, .inl bx)), (oa, .inl (cy 0, 60, .inl oo)), (fa, .inl (cy 0, 60, .inl fi)), (sa, .inl (cy 0, 60, .inl se))] := hD
  refine lv_icmp_ge (tgt := 33) hx hb dX1_readCommand_11 (by decide) (fun c_1 => ?_) (fun c_1 => ?_)
  · exact absurd ((nI_leI (by omega) (by omega)).mp c_1) (Nat.not_le.mpr hlt)
  · refine va_ldcS hx hb hown (hgl A s hG).1 dX1_readCommand_14 ?_
    refine lv_aload_n hx hb dX1_readCommand_16 rfl (lv_at hl 0 rfl) ?_
    refine va_get (D := D) (ci := 5) (v := .ref o8) (C := RX1) (T := TX1) (N := 6) hx hb hts in_RX1 hown hK hP 0 rfl rfl 0 (by decide) (hts _ (List.mem_of_getElem? (i := 2) rfl)) (fun _ h9 => h9) rfl dX1_readCommand_17 ?_
    refine lv_aload_n hx hb dX1_readCommand_20 rfl (lv_at hl 0 rfl) ?_
    refine va_get (D := D) (ci := 5) (v := .int (nI he)) (C := RX1) (T := TX1) (N := 6) hx hb hts in_RX1 hown hK hP 0 rfl rfl 5 (by decide) (hts _ (List.mem_of_getElem? (i := 1) rfl)) (fun _ h9 => h9) rfl dX1_readCommand_21 ?_
    refine zcV (As := [.int (nI he)]) (rest := [.ref ak]) [1, 2] 1 hg.1.1 ⟨hx, hb, hml, hown, hts⟩ (c_J4_charAt_5068e hg l D cy o8 b8 ml nn bx mm he (by first | assumption | omega) (by first | assumption | omega) (by first | assumption | omega) (by first | assumption | omega)) (cwV 1 hts gX1_readCommand_J4_charAt_5068e rfl rfl rfl (by decide +kernel) ⟨Nat.le_of_ble_eq_true rfl, Nat.le_of_ble_eq_true rfl⟩) hG hK hP hD hS hA rfl rfl rfl rfl rfl rfl hl.1 rfl (Nat.le_of_ble_eq_true rfl) dX1_readCommand_24 ⟨Nat.zero_le _, Nat.zero_le _⟩ (fun H locs hP hD hS => ?_)
    have hP : va_P D vwCl [(ic, .inr (5, [.ref o8, .ref oa, .ref fa, .ref sa, .int (nI kc), .int (nI he)])), (o8, .inr (1, [.ref b8, .int 0, .int ml, .int (nI nn)])), (b8, .inl (cy 1, mm, .inl bx)), (oa, .inl (cy 0, 60, .inl oo)), (fa, .inl (cy 0, 60, .inl fi)), (sa, .inl (cy 0, 60, .inl se))] H := hP
    have hD : va_D A [(ic, .inr (5, [.ref o8, .ref oa, .ref fa, .ref sa, .int (nI kc), .int (nI he)])), (o8, .inr (1, [.ref b8, .int 0, .int ml, .int (nI nn)])), (b8, .inl (cy 1, mm, .inl bx)), (oa, .inl (cy 0, 60, .inl oo)), (fa, .inl (cy 0, 60, .inl fi)), (sa, .inl (cy 0, 60, .inl se))] := hD
    refine z_top (y := 104) (hb0) ?_
    refine zcVK (C := RJ0) (As := [.int 104]) (rest := []) [] hg.1.1 ⟨hx, hb, hml, hown, hts⟩ (c_J0_indexOf_0f7a4 hg l D cy ak av 104 (by first | assumption | omega) (by decide) (by decide) (by decide)) (cwV 1 hts gX1_readCommand_J0_indexOf_0f7a4 rfl rfl rfl (by decide +kernel) ⟨Nat.le_of_ble_eq_true rfl, Nat.le_of_ble_eq_true rfl⟩) (hgl A s hG).2.1 hG hK hP hD hS hA rfl rfl rfl  rfl hl.1 rfl (Nat.le_of_ble_eq_true rfl) dX1_readCommand_27 ⟨Nat.zero_le _, Nat.zero_le _⟩ (fun H locs hP hD hS => ?_)
    have hP : va_P D vwCl [(ic, .inr (5, [.ref o8, .ref oa, .ref fa, .ref sa, .int (nI kc), .int (nI he)])), (o8, .inr (1, [.ref b8, .int 0, .int ml, .int (nI nn)])), (b8, .inl (cy 1, mm, .inl bx)), (oa, .inl (cy 0, 60, .inl oo)), (fa, .inl (cy 0, 60, .inl fi)), (sa, .inl (cy 0, 60, .inl se))] H := hP
    have hD : va_D A [(ic, .inr (5, [.ref o8, .ref oa, .ref fa, .ref sa, .int (nI kc), .int (nI he)])), (o8, .inr (1, [.ref b8, .int 0, .int ml, .int (nI nn)])), (b8, .inl (cy 1, mm, .inl bx)), (oa, .inl (cy 0, 60, .inl oo)), (fa, .inl (cy 0, 60, .inl fi)), (sa, .inl (cy 0, 60, .inl se))] := hD
    refine z_top (y := 2) (by decide) ?_
    refine lv_if_ge (tgt := 35) hx hb dX1_readCommand_30 (by decide) (fun c_2 => ?_) (fun c_2 => ?_)
    · refine lv_aload_n hx hb dX1_readCommand_35 rfl (lv_at hl 0 rfl) ?_
      refine va_get (D := D) (ci := 5) (v := .ref oa) (C := RX1) (T := TX1) (N := 6) hx hb hts in_RX1 hown hK hP 0 rfl rfl 1 (by decide) (hts _ (List.mem_of_getElem? (i := 3) rfl)) (fun _ h9 => h9) rfl dX1_readCommand_36 ?_
      refine lv_iload_n hx hb dX1_readCommand_39 rfl (lv_at hl 1 rfl) ?_
      refine lv_aload_n hx hb dX1_readCommand_40 rfl (lv_at hl 0 rfl) ?_
      refine va_get (D := D) (ci := 5) (v := .ref o8) (C := RX1) (T := TX1) (N := 6) hx hb hts in_RX1 hown hK hP 0 rfl rfl 0 (by decide) (hts _ (List.mem_of_getElem? (i := 2) rfl)) (fun _ h9 => h9) rfl dX1_readCommand_41 ?_
      refine lv_aload_n hx hb dX1_readCommand_44 rfl (lv_at hl 0 rfl) ?_
      refine va_get (D := D) (ci := 5) (v := .int (nI he)) (C := RX1) (T := TX1) (N := 6) hx hb hts in_RX1 hown hK hP 0 rfl rfl 5 (by decide) (hts _ (List.mem_of_getElem? (i := 1) rfl)) (fun _ h9 => h9) rfl dX1_readCommand_45 ?_
      refine zcV (As := [.int (nI he)]) (rest := [.int (nI k), .ref oa]) [1, 2] 1 hg.1.1 ⟨hx, hb, hml, hown, hts⟩ (c_J4_charAt_5068e hg l D cy o8 b8 ml nn bx mm he (by first | assumption | omega) (by first | assumption | omega) (by first | assumption | omega) (by first | assumption | omega)) (cwV 1 hts gX1_readCommand_J4_charAt_5068e rfl rfl rfl (by decide +kernel) ⟨Nat.le_of_ble_eq_true rfl, Nat.le_of_ble_eq_true rfl⟩) hG hK hP hD hS hA rfl rfl rfl rfl rfl rfl hl.1 rfl (Nat.le_of_ble_eq_true rfl) dX1_readCommand_48 ⟨Nat.zero_le _, Nat.zero_le _⟩ (fun H locs hP hD hS => ?_)
      have hP : va_P D vwCl [(ic, .inr (5, [.ref o8, .ref oa, .ref fa, .ref sa, .int (nI kc), .int (nI he)])), (o8, .inr (1, [.ref b8, .int 0, .int ml, .int (nI nn)])), (b8, .inl (cy 1, mm, .inl bx)), (oa, .inl (cy 0, 60, .inl oo)), (fa, .inl (cy 0, 60, .inl fi)), (sa, .inl (cy 0, 60, .inl se))] H := hP
      have hD : va_D A [(ic, .inr (5, [.ref o8, .ref oa, .ref fa, .ref sa, .int (nI kc), .int (nI he)])), (o8, .inr (1, [.ref b8, .int 0, .int ml, .int (nI nn)])), (b8, .inl (cy 1, mm, .inl bx)), (oa, .inl (cy 0, 60, .inl oo)), (fa, .inl (cy 0, 60, .inl fi)), (sa, .inl (cy 0, 60, .inl se))] := hD
      refine z_top (y := 104) (hb0) ?_
      refine ziast 3 0 k hx hb hK hP hD hS rfl rfl (by omega) (z_lt rfl) dX1_readCommand_51 (fun H locs hP hD hS => ?_)
      have hP : va_P D vwCl [(ic, .inr (5, [.ref o8, .ref oa, .ref fa, .ref sa, .int (nI kc), .int (nI he)])), (o8, .inr (1, [.ref b8, .int 0, .int ml, .int (nI nn)])), (b8, .inl (cy 1, mm, .inl bx)), (oa, .inl (cy 0, 60, .inl (upd oo k 104))), (fa, .inl (cy 0, 60, .inl fi)), (sa, .inl (cy 0, 60, .inl se))] H := hP
      have hD : va_D A [(ic, .inr (5, [.ref o8, .ref oa, .ref fa, .ref sa, .int (nI kc), .int (nI he)])), (o8, .inr (1, [.ref b8, .int 0, .int ml, .int (nI nn)])), (b8, .inl (cy 1, mm, .inl bx)), (oa, .inl (cy 0, 60, .inl (upd oo k 104))), (fa, .inl (cy 0, 60, .inl fi)), (sa, .inl (cy 0, 60, .inl se))] := hD
      refine lv_aload_n hx hb dX1_readCommand_52 rfl (lv_at hl 0 rfl) ?_
      refine va_get (D := D) (ci := 5) (v := .ref fa) (C := RX1) (T := TX1) (N := 6) hx hb hts in_RX1 hown hK hP 0 rfl rfl 2 (by decide) (hts _ (List.mem_of_getElem? (i := 4) rfl)) (fun _ h9 => h9) rfl dX1_readCommand_53 ?_
      refine lv_iload_n hx hb dX1_readCommand_56 rfl (lv_at hl 1 rfl) ?_
      refine lv_iconst (v := 0) hx hb dX1_readCommand_57 (by decide) ?_
      refine ziast 4 0 k hx hb hK hP hD hS rfl rfl (by omega) (z_lt rfl) dX1_readCommand_58 (fun H locs hP hD hS => ?_)
      have hP : va_P D vwCl [(ic, .inr (5, [.ref o8, .ref oa, .ref fa, .ref sa, .int (nI kc), .int (nI he)])), (o8, .inr (1, [.ref b8, .int 0, .int ml, .int (nI nn)])), (b8, .inl (cy 1, mm, .inl bx)), (oa, .inl (cy 0, 60, .inl (upd oo k 104))), (fa, .inl (cy 0, 60, .inl (upd fi k 0))), (sa, .inl (cy 0, 60, .inl se))] H := hP
      have hD : va_D A [(ic, .inr (5, [.ref o8, .ref oa, .ref fa, .ref sa, .int (nI kc), .int (nI he)])), (o8, .inr (1, [.ref b8, .int 0, .int ml, .int (nI nn)])), (b8, .inl (cy 1, mm, .inl bx)), (oa, .inl (cy 0, 60, .inl (upd oo k 104))), (fa, .inl (cy 0, 60, .inl (upd fi k 0))), (sa, .inl (cy 0, 60, .inl se))] := hD
      refine lv_aload_n hx hb dX1_readCommand_59 rfl (lv_at hl 0 rfl) ?_
      refine va_get (D := D) (ci := 5) (v := .ref sa) (C := RX1) (T := TX1) (N := 6) hx hb hts in_RX1 hown hK hP 0 rfl rfl 3 (by decide) (hts _ (List.mem_of_getElem? (i := 5) rfl)) (fun _ h9 => h9) rfl dX1_readCommand_60 ?_
      refine lv_iload_n hx hb dX1_readCommand_63 rfl (lv_at hl 1 rfl) ?_
      refine lv_iconst (v := 0) hx hb dX1_readCommand_64 (by decide) ?_
      refine ziast 5 0 k hx hb hK hP hD hS rfl rfl (by omega) (z_lt rfl) dX1_readCommand_65 (fun H locs hP hD hS => ?_)
      have hP : va_P D vwCl [(ic, .inr (5, [.ref o8, .ref oa, .ref fa, .ref sa, .int (nI kc), .int (nI he)])), (o8, .inr (1, [.ref b8, .int 0, .int ml, .int (nI nn)])), (b8, .inl (cy 1, mm, .inl bx)), (oa, .inl (cy 0, 60, .inl (upd oo k 104))), (fa, .inl (cy 0, 60, .inl (upd fi k 0))), (sa, .inl (cy 0, 60, .inl (upd se k 0)))] H := hP
      have hD : va_D A [(ic, .inr (5, [.ref o8, .ref oa, .ref fa, .ref sa, .int (nI kc), .int (nI he)])), (o8, .inr (1, [.ref b8, .int 0, .int ml, .int (nI nn)])), (b8, .inl (cy 1, mm, .inl bx)), (oa, .inl (cy 0, 60, .inl (upd oo k 104))), (fa, .inl (cy 0, 60, .inl (upd fi k 0))), (sa, .inl (cy 0, 60, .inl (upd se k 0)))] := hD
      refine lv_aload_n hx hb dX1_readCommand_66 rfl (lv_at hl 0 rfl) ?_
      refine lv_dup hx hb dX1_readCommand_67 rfl ?_
      refine va_get (D := D) (ci := 5) (v := .int (nI he)) (C := RX1) (T := TX1) (N := 6) hx hb hts in_RX1 hown hK hP 0 rfl rfl 5 (by decide) (hts _ (List.mem_of_getElem? (i := 1) rfl)) (fun _ h9 => h9) rfl dX1_readCommand_68 ?_
      refine lv_iconst (v := 1) hx hb dX1_readCommand_71 (by decide) ?_
      refine lv_iadd hx hb dX1_readCommand_72 ?_
      refine z_top (y := nI (he + 1)) (nI_add he 1) ?_
      refine va_put (D := D) (ci := 5) (v := .int (nI (he + 1))) (ty := .int) (C := RX1) (T := TX1) (N := 6) hx hb hts in_RX1 tyX1 tyX1_ok nmX1 hown hK hP hD hS 0 rfl rfl 5 (by decide) (hts _ (List.mem_of_getElem? (i := 1) rfl)) (fun _ h9 => h9) rfl (by decide +kernel) rfl rfl (Nat.le_of_ble_eq_true rfl) dX1_readCommand_73 (fun H locs hP hD hS => ?_)
      have hP : va_P D vwCl [(ic, .inr (5, [.ref o8, .ref oa, .ref fa, .ref sa, .int (nI kc), .int (nI (he + 1))])), (o8, .inr (1, [.ref b8, .int 0, .int ml, .int (nI nn)])), (b8, .inl (cy 1, mm, .inl bx)), (oa, .inl (cy 0, 60, .inl (upd oo k 104))), (fa, .inl (cy 0, 60, .inl (upd fi k 0))), (sa, .inl (cy 0, 60, .inl (upd se k 0)))] H := hP
      have hD : va_D A [(ic, .inr (5, [.ref o8, .ref oa, .ref fa, .ref sa, .int (nI kc), .int (nI (he + 1))])), (o8, .inr (1, [.ref b8, .int 0, .int ml, .int (nI nn)])), (b8, .inl (cy 1, mm, .inl bx)), (oa, .inl (cy 0, 60, .inl (upd oo k 104))), (fa, .inl (cy 0, 60, .inl (upd fi k 0))), (sa, .inl (cy 0, 60, .inl (upd se k 0)))] := hD
      refine lv_aload_n hx hb dX1_readCommand_76 rfl (lv_at hl 0 rfl) ?_
      refine va_get (D := D) (ci := 5) (v := .ref oa) (C := RX1) (T := TX1) (N := 6) hx hb hts in_RX1 hown hK hP 0 rfl rfl 1 (by decide) (hts _ (List.mem_of_getElem? (i := 3) rfl)) (fun _ h9 => h9) rfl dX1_readCommand_77 ?_
      refine lv_iload_n hx hb dX1_readCommand_80 rfl (lv_at hl 1 rfl) ?_
      refine ziald 3 0 k hx hb hK hP rfl rfl (by omega) (z_lt rfl) dX1_readCommand_81 ?_
      refine z_top (y := 104) (upd_s) ?_
      refine lv_tableIn (off := 187) (tgt := 269) hx hb dX1_readCommand_82 (by decide) (by decide) (by decide) (by decide) ?_
      refine lv_aload_n hx hb dX1_readCommand_269 rfl (lv_at hl 0 rfl) ?_
      refine lv_iload_n hx hb dX1_readCommand_270 rfl (lv_at hl 1 rfl) ?_
      refine lv_iconst (v := 2) hx hb dX1_readCommand_271 (by decide) ?_
      refine z_top (y := nI 2) (rfl) ?_
      refine zcV (As := [.int (nI k), .int (nI 2)]) (rest := []) [0, 1, 2, 4] 0 hg.1.1 ⟨hx, hb, hml, hown, hts⟩ (c_X1_readFirst hg l D cy ic oa fa sa kc (he + 1) o8 b8 ml nn bx mm 2 k (upd fi k 0) (by first | assumption | decide | omega) (by first | assumption | decide | omega) (by first | assumption | decide | omega) (by first | assumption | decide | omega) (by first | assumption | decide | omega) (by first | assumption | decide | omega) (by first | assumption | decide | omega) (by first | assumption | decide | omega)) (cwV 2 hts gX1_readCommand_X1_readFirst rfl rfl rfl (by decide +kernel) ⟨Nat.le_of_ble_eq_true rfl, Nat.le_of_ble_eq_true rfl⟩) hG hK hP hD hS hA rfl rfl (Eq.trans (b := [ic, o8, b8, fa]) rfl rfl) rfl rfl rfl hl.1 rfl (Nat.le_of_ble_eq_true rfl) dX1_readCommand_272 ⟨Nat.zero_le _, Nat.zero_le _⟩ (fun H locs hP hD hS => ?_)
      have hP : va_P D vwCl [(ic, .inr (5, [.ref o8, .ref oa, .ref fa, .ref sa, .int (nI kc), .int (nI ((he + 1) + zdN bx nn 2 (he + 1)))])), (o8, .inr (1, [.ref b8, .int 0, .int ml, .int (nI nn)])), (b8, .inl (cy 1, mm, .inl bx)), (oa, .inl (cy 0, 60, .inl (upd oo k 104))), (fa, .inl (cy 0, 60, .inl (upd (upd fi k 0) k (zNu bx nn 2 (he + 1))))), (sa, .inl (cy 0, 60, .inl (upd se k 0)))] H := hP
      have hD : va_D A [(ic, .inr (5, [.ref o8, .ref oa, .ref fa, .ref sa, .int (nI kc), .int (nI ((he + 1) + zdN bx nn 2 (he + 1)))])), (o8, .inr (1, [.ref b8, .int 0, .int ml, .int (nI nn)])), (b8, .inl (cy 1, mm, .inl bx)), (oa, .inl (cy 0, 60, .inl (upd oo k 104))), (fa, .inl (cy 0, 60, .inl (upd (upd fi k 0) k (zNu bx nn 2 (he + 1))))), (sa, .inl (cy 0, 60, .inl (upd se k 0)))] := hD
      exact zzret hend hx hb hr hlk hK hP hD hS dX1_readCommand_275 (zI_nar _) (by rfl) (by simp only [upd_u])
    · exact absurd c_2 (by decide)

abbrev rmX1_readCommand_r114 : Room := { frames := 7, cells := 0, slots := 0, locals := 156 }
set_option maxHeartbeats 4000000 in
set_option maxRecDepth 100000 in
theorem c_X1_readCommand_r114 {G : zG} (hg : zGJ G) (l : Launch) (D : va_G) (cy : Nat → ClassId) (ic : Nat) (oa : Nat) (fa : Nat) (sa : Nat) (kc : Nat) (he : Nat) (o8 : Nat) (b8 : Nat) (ml : Int32) (nn : Nat) (bx : Nat → Int32) (mm : Nat) (ak : Nat) (av : Nat) (oo : Nat → Int32) (fi : Nat → Int32) (se : Nat → Int32) (k : Nat) (hhe : he ≤ 200) (hnm : nn ≤ mm) (hmm : mm ≤ 100) (hch : ∀ j, j < nn → zch (bx j)) (hgl : ∀ (A : Nat → Prop) (U : State), G A U → zLit ak av A U) (hk : k < 60) (hhe6 : he ≤ 60) (hc : zqs bx nn he = 114) : zM G D vwCl (zT cy) l yX1_readCommand wsX1_readCommand rmX1_readCommand_r114 [.ref ic, .int (nI k)] [(ic, .inr (5, [.ref o8, .ref oa, .ref fa, .ref sa, .int (nI kc), .int (nI he)])), (o8, .inr (1, [.ref b8, .int 0, .int ml, .int (nI nn)])), (b8, .inl (cy 1, mm, .inl bx)), (oa, .inl (cy 0, 60, .inl oo)), (fa, .inl (cy 0, 60, .inl fi)), (sa, .inl (cy 0, 60, .inl se))] (some (.int (zI (!(decide (zdN bx nn 2 (he + 1) = 0)))))) [(ic, .inr (5, [.ref o8, .ref oa, .ref fa, .ref sa, .int (nI kc), .int (nI ((he + 1) + zdN bx nn 2 (he + 1)))])), (o8, .inr (1, [.ref b8, .int 0, .int ml, .int (nI nn)])), (b8, .inl (cy 1, mm, .inl bx)), (oa, .inl (cy 0, 60, .inl (upd oo k 114))), (fa, .inl (cy 0, 60, .inl (upd fi k (zNu bx nn 2 (he + 1))))), (sa, .inl (cy 0, 60, .inl (upd se k (0))))] := by
  refine zM_of (cc := cX1_readCommand) (maxL := 2) (ret := (some .boolean)) (by decide) rfl (Nat.le_of_ble_eq_true rfl) ?_
  intro p e s m below meth c A Q hend hx hb hml hr hts hown hlk hG hK hP hD hA hS ls hl
  have hown : s.vm.findClass RX1 = some m.cls := hown
  have in_RX1 : ∀ w ∈ u_ws RX1 TX1 6, w ∈ wsX1_readCommand := by decide +kernel
  have hl : lv_has ls 2 [(0, .ref ic), (1, .int (nI k))] := hl
  have hlt : he < nn := zqs_lt hc (by decide)
  have hb0 : bx he = 114 := by have h9 := hc; rw [zqs, if_pos hlt] at h9; exact h9
  refine lv_aload_n hx hb dX1_readCommand_0 rfl (lv_at hl 0 rfl) ?_
  refine va_get (D := D) (ci := 5) (v := .int (nI he)) (C := RX1) (T := TX1) (N := 6) hx hb hts in_RX1 hown hK hP 0 rfl rfl 5 (by decide) (hts _ (List.mem_of_getElem? (i := 1) rfl)) (fun _ h9 => h9) rfl dX1_readCommand_1 ?_
  refine lv_aload_n hx hb dX1_readCommand_4 rfl (lv_at hl 0 rfl) ?_
  refine va_get (D := D) (ci := 5) (v := .ref o8) (C := RX1) (T := TX1) (N := 6) hx hb hts in_RX1 hown hK hP 0 rfl rfl 0 (by decide) (hts _ (List.mem_of_getElem? (i := 2) rfl)) (fun _ h9 => h9) rfl dX1_readCommand_5 ?_
  refine zcV (As := []) (rest := [.int (nI he)]) [1] 1 hg.1.1 ⟨hx, hb, hml, hown, hts⟩ (c_J4_length_8abf5 hg.1 l D cy o8 b8 ml nn) (cwV 0 hts gX1_readCommand_J4_length_8abf5 rfl rfl rfl (by decide +kernel) ⟨Nat.le_of_ble_eq_true rfl, Nat.le_of_ble_eq_true rfl⟩) hG hK hP hD hS hA rfl rfl rfl rfl rfl rfl hl.1 rfl (Nat.le_of_ble_eq_true rfl) dX1_readCommand_8 ⟨Nat.zero_le _, Nat.zero_le _⟩ (fun H locs hP hD hS => ?_)
  have hP : va_P D vwCl [(ic, .inr (5, [.ref o8, .ref oa, .ref fa, .ref sa, .int (nI kc), .int (nI he)])), (o8, .inr (1, [.ref b8, .int 0, .int ml, .int (nI nn)])), (b8, .inl (cy 1, mm, .inl bx)), (oa, .inl (cy 0, 60, .inl oo)), (fa, .inl (cy 0, 60, .inl fi)), (sa, .inl (cy 0, 60, .inl se))] H := hP
  have hD : va_D A [(ic, .inr (5, [.ref o8, .ref oa, .ref fa, .ref sa, .int (nI kc), .int (nI he)])), (o8, .inr (1, [.ref b8, .int 0, .int ml, .int (nI nn)])), (b8, .inl (cy 1, mm, .inl bx)), (oa, .inl (cy 0, 60, .inl oo)), (fa, .inl (cy 0, 60, .inl fi)), (sa, .inl (cy 0, 60, .inl se))] := hD
  refine lv_icmp_ge (tgt := 33) hx hb dX1_readCommand_11 (by decide) (fun c_1 => ?_) (fun c_1 => ?_)
  · exact absurd ((nI_leI (by omega) (by omega)).mp c_1) (Nat.not_le.mpr hlt)
  · refine va_ldcS hx hb hown (hgl A s hG).1 dX1_readCommand_14 ?_
    refine lv_aload_n hx hb dX1_readCommand_16 rfl (lv_at hl 0 rfl) ?_
    refine va_get (D := D) (ci := 5) (v := .ref o8) (C := RX1) (T := TX1) (N := 6) hx hb hts in_RX1 hown hK hP 0 rfl rfl 0 (by decide) (hts _ (List.mem_of_getElem? (i := 2) rfl)) (fun _ h9 => h9) rfl dX1_readCommand_17 ?_
    refine lv_aload_n hx hb dX1_readCommand_20 rfl (lv_at hl 0 rfl) ?_
    refine va_get (D := D) (ci := 5) (v := .int (nI he)) (C := RX1) (T := TX1) (N := 6) hx hb hts in_RX1 hown hK hP 0 rfl rfl 5 (by decide) (hts _ (List.mem_of_getElem? (i := 1) rfl)) (fun _ h9 => h9) rfl dX1_readCommand_21 ?_
    refine zcV (As := [.int (nI he)]) (rest := [.ref ak]) [1, 2] 1 hg.1.1 ⟨hx, hb, hml, hown, hts⟩ (c_J4_charAt_5068e hg l D cy o8 b8 ml nn bx mm he (by first | assumption | omega) (by first | assumption | omega) (by first | assumption | omega) (by first | assumption | omega)) (cwV 1 hts gX1_readCommand_J4_charAt_5068e rfl rfl rfl (by decide +kernel) ⟨Nat.le_of_ble_eq_true rfl, Nat.le_of_ble_eq_true rfl⟩) hG hK hP hD hS hA rfl rfl rfl rfl rfl rfl hl.1 rfl (Nat.le_of_ble_eq_true rfl) dX1_readCommand_24 ⟨Nat.zero_le _, Nat.zero_le _⟩ (fun H locs hP hD hS => ?_)
    have hP : va_P D vwCl [(ic, .inr (5, [.ref o8, .ref oa, .ref fa, .ref sa, .int (nI kc), .int (nI he)])), (o8, .inr (1, [.ref b8, .int 0, .int ml, .int (nI nn)])), (b8, .inl (cy 1, mm, .inl bx)), (oa, .inl (cy 0, 60, .inl oo)), (fa, .inl (cy 0, 60, .inl fi)), (sa, .inl (cy 0, 60, .inl se))] H := hP
    have hD : va_D A [(ic, .inr (5, [.ref o8, .ref oa, .ref fa, .ref sa, .int (nI kc), .int (nI he)])), (o8, .inr (1, [.ref b8, .int 0, .int ml, .int (nI nn)])), (b8, .inl (cy 1, mm, .inl bx)), (oa, .inl (cy 0, 60, .inl oo)), (fa, .inl (cy 0, 60, .inl fi)), (sa, .inl (cy 0, 60, .inl se))] := hD
    refine z_top (y := 114) (hb0) ?_
    refine zcVK (C := RJ0) (As := [.int 114]) (rest := []) [] hg.1.1 ⟨hx, hb, hml, hown, hts⟩ (c_J0_indexOf_0f7a4 hg l D cy ak av 114 (by first | assumption | omega) (by decide) (by decide) (by decide)) (cwV 1 hts gX1_readCommand_J0_indexOf_0f7a4 rfl rfl rfl (by decide +kernel) ⟨Nat.le_of_ble_eq_true rfl, Nat.le_of_ble_eq_true rfl⟩) (hgl A s hG).2.1 hG hK hP hD hS hA rfl rfl rfl  rfl hl.1 rfl (Nat.le_of_ble_eq_true rfl) dX1_readCommand_27 ⟨Nat.zero_le _, Nat.zero_le _⟩ (fun H locs hP hD hS => ?_)
    have hP : va_P D vwCl [(ic, .inr (5, [.ref o8, .ref oa, .ref fa, .ref sa, .int (nI kc), .int (nI he)])), (o8, .inr (1, [.ref b8, .int 0, .int ml, .int (nI nn)])), (b8, .inl (cy 1, mm, .inl bx)), (oa, .inl (cy 0, 60, .inl oo)), (fa, .inl (cy 0, 60, .inl fi)), (sa, .inl (cy 0, 60, .inl se))] H := hP
    have hD : va_D A [(ic, .inr (5, [.ref o8, .ref oa, .ref fa, .ref sa, .int (nI kc), .int (nI he)])), (o8, .inr (1, [.ref b8, .int 0, .int ml, .int (nI nn)])), (b8, .inl (cy 1, mm, .inl bx)), (oa, .inl (cy 0, 60, .inl oo)), (fa, .inl (cy 0, 60, .inl fi)), (sa, .inl (cy 0, 60, .inl se))] := hD
    refine z_top (y := 3) (by decide) ?_
    refine lv_if_ge (tgt := 35) hx hb dX1_readCommand_30 (by decide) (fun c_2 => ?_) (fun c_2 => ?_)
    · refine lv_aload_n hx hb dX1_readCommand_35 rfl (lv_at hl 0 rfl) ?_
      refine va_get (D := D) (ci := 5) (v := .ref oa) (C := RX1) (T := TX1) (N := 6) hx hb hts in_RX1 hown hK hP 0 rfl rfl 1 (by decide) (hts _ (List.mem_of_getElem? (i := 3) rfl)) (fun _ h9 => h9) rfl dX1_readCommand_36 ?_
      refine lv_iload_n hx hb dX1_readCommand_39 rfl (lv_at hl 1 rfl) ?_
      refine lv_aload_n hx hb dX1_readCommand_40 rfl (lv_at hl 0 rfl) ?_
      refine va_get (D := D) (ci := 5) (v := .ref o8) (C := RX1) (T := TX1) (N := 6) hx hb hts in_RX1 hown hK hP 0 rfl rfl 0 (by decide) (hts _ (List.mem_of_getElem? (i := 2) rfl)) (fun _ h9 => h9) rfl dX1_readCommand_41 ?_
      refine lv_aload_n hx hb dX1_readCommand_44 rfl (lv_at hl 0 rfl) ?_
      refine va_get (D := D) (ci := 5) (v := .int (nI he)) (C := RX1) (T := TX1) (N := 6) hx hb hts in_RX1 hown hK hP 0 rfl rfl 5 (by decide) (hts _ (List.mem_of_getElem? (i := 1) rfl)) (fun _ h9 => h9) rfl dX1_readCommand_45 ?_
      refine zcV (As := [.int (nI he)]) (rest := [.int (nI k), .ref oa]) [1, 2] 1 hg.1.1 ⟨hx, hb, hml, hown, hts⟩ (c_J4_charAt_5068e hg l D cy o8 b8 ml nn bx mm he (by first | assumption | omega) (by first | assumption | omega) (by first | assumption | omega) (by first | assumption | omega)) (cwV 1 hts gX1_readCommand_J4_charAt_5068e rfl rfl rfl (by decide +kernel) ⟨Nat.le_of_ble_eq_true rfl, Nat.le_of_ble_eq_true rfl⟩) hG hK hP hD hS hA rfl rfl rfl rfl rfl rfl hl.1 rfl (Nat.le_of_ble_eq_true rfl) dX1_readCommand_48 ⟨Nat.zero_le _, Nat.zero_le _⟩ (fun H locs hP hD hS => ?_)
      have hP : va_P D vwCl [(ic, .inr (5, [.ref o8, .ref oa, .ref fa, .ref sa, .int (nI kc), .int (nI he)])), (o8, .inr (1, [.ref b8, .int 0, .int ml, .int (nI nn)])), (b8, .inl (cy 1, mm, .inl bx)), (oa, .inl (cy 0, 60, .inl oo)), (fa, .inl (cy 0, 60, .inl fi)), (sa, .inl (cy 0, 60, .inl se))] H := hP
      have hD : va_D A [(ic, .inr (5, [.ref o8, .ref oa, .ref fa, .ref sa, .int (nI kc), .int (nI he)])), (o8, .inr (1, [.ref b8, .int 0, .int ml, .int (nI nn)])), (b8, .inl (cy 1, mm, .inl bx)), (oa, .inl (cy 0, 60, .inl oo)), (fa, .inl (cy 0, 60, .inl fi)), (sa, .inl (cy 0, 60, .inl se))] := hD
      refine z_top (y := 114) (hb0) ?_
      refine ziast 3 0 k hx hb hK hP hD hS rfl rfl (by omega) (z_lt rfl) dX1_readCommand_51 (fun H locs hP hD hS => ?_)
      have hP : va_P D vwCl [(ic, .inr (5, [.ref o8, .ref oa, .ref fa, .ref sa, .int (nI kc), .int (nI he)])), (o8, .inr (1, [.ref b8, .int 0, .int ml, .int (nI nn)])), (b8, .inl (cy 1, mm, .inl bx)), (oa, .inl (cy 0, 60, .inl (upd oo k 114))), (fa, .inl (cy 0, 60, .inl fi)), (sa, .inl (cy 0, 60, .inl se))] H := hP
      have hD : va_D A [(ic, .inr (5, [.ref o8, .ref oa, .ref fa, .ref sa, .int (nI kc), .int (nI he)])), (o8, .inr (1, [.ref b8, .int 0, .int ml, .int (nI nn)])), (b8, .inl (cy 1, mm, .inl bx)), (oa, .inl (cy 0, 60, .inl (upd oo k 114))), (fa, .inl (cy 0, 60, .inl fi)), (sa, .inl (cy 0, 60, .inl se))] := hD
      refine lv_aload_n hx hb dX1_readCommand_52 rfl (lv_at hl 0 rfl) ?_
      refine va_get (D := D) (ci := 5) (v := .ref fa) (C := RX1) (T := TX1) (N := 6) hx hb hts in_RX1 hown hK hP 0 rfl rfl 2 (by decide) (hts _ (List.mem_of_getElem? (i := 4) rfl)) (fun _ h9 => h9) rfl dX1_readCommand_53 ?_
      refine lv_iload_n hx hb dX1_readCommand_56 rfl (lv_at hl 1 rfl) ?_
      refine lv_iconst (v := 0) hx hb dX1_readCommand_57 (by decide) ?_
      refine ziast 4 0 k hx hb hK hP hD hS rfl rfl (by omega) (z_lt rfl) dX1_readCommand_58 (fun H locs hP hD hS => ?_)
      have hP : va_P D vwCl [(ic, .inr (5, [.ref o8, .ref oa, .ref fa, .ref sa, .int (nI kc), .int (nI he)])), (o8, .inr (1, [.ref b8, .int 0, .int ml, .int (nI nn)])), (b8, .inl (cy 1, mm, .inl bx)), (oa, .inl (cy 0, 60, .inl (upd oo k 114))), (fa, .inl (cy 0, 60, .inl (upd fi k 0))), (sa, .inl (cy 0, 60, .inl se))] H := hP
      have hD : va_D A [(ic, .inr (5, [.ref o8, .ref oa, .ref fa, .ref sa, .int (nI kc), .int (nI he)])), (o8, .inr (1, [.ref b8, .int 0, .int ml, .int (nI nn)])), (b8, .inl (cy 1, mm, .inl bx)), (oa, .inl (cy 0, 60, .inl (upd oo k 114))), (fa, .inl (cy 0, 60, .inl (upd fi k 0))), (sa, .inl (cy 0, 60, .inl se))] := hD
      refine lv_aload_n hx hb dX1_readCommand_59 rfl (lv_at hl 0 rfl) ?_
      refine va_get (D := D) (ci := 5) (v := .ref sa) (C := RX1) (T := TX1) (N := 6) hx hb hts in_RX1 hown hK hP 0 rfl rfl 3 (by decide) (hts _ (List.mem_of_getElem? (i := 5) rfl)) (fun _ h9 => h9) rfl dX1_readCommand_60 ?_
      refine lv_iload_n hx hb dX1_readCommand_63 rfl (lv_at hl 1 rfl) ?_
      refine lv_iconst (v := 0) hx hb dX1_readCommand_64 (by decide) ?_
      refine ziast 5 0 k hx hb hK hP hD hS rfl rfl (by omega) (z_lt rfl) dX1_readCommand_65 (fun H locs hP hD hS => ?_)
      have hP : va_P D vwCl [(ic, .inr (5, [.ref o8, .ref oa, .ref fa, .ref sa, .int (nI kc), .int (nI he)])), (o8, .inr (1, [.ref b8, .int 0, .int ml, .int (nI nn)])), (b8, .inl (cy 1, mm, .inl bx)), (oa, .inl (cy 0, 60, .inl (upd oo k 114))), (fa, .inl (cy 0, 60, .inl (upd fi k 0))), (sa, .inl (cy 0, 60, .inl (upd se k 0)))] H := hP
      have hD : va_D A [(ic, .inr (5, [.ref o8, .ref oa, .ref fa, .ref sa, .int (nI kc), .int (nI he)])), (o8, .inr (1, [.ref b8, .int 0, .int ml, .int (nI nn)])), (b8, .inl (cy 1, mm, .inl bx)), (oa, .inl (cy 0, 60, .inl (upd oo k 114))), (fa, .inl (cy 0, 60, .inl (upd fi k 0))), (sa, .inl (cy 0, 60, .inl (upd se k 0)))] := hD
      refine lv_aload_n hx hb dX1_readCommand_66 rfl (lv_at hl 0 rfl) ?_
      refine lv_dup hx hb dX1_readCommand_67 rfl ?_
      refine va_get (D := D) (ci := 5) (v := .int (nI he)) (C := RX1) (T := TX1) (N := 6) hx hb hts in_RX1 hown hK hP 0 rfl rfl 5 (by decide) (hts _ (List.mem_of_getElem? (i := 1) rfl)) (fun _ h9 => h9) rfl dX1_readCommand_68 ?_
      refine lv_iconst (v := 1) hx hb dX1_readCommand_71 (by decide) ?_
      refine lv_iadd hx hb dX1_readCommand_72 ?_
      refine z_top (y := nI (he + 1)) (nI_add he 1) ?_
      refine va_put (D := D) (ci := 5) (v := .int (nI (he + 1))) (ty := .int) (C := RX1) (T := TX1) (N := 6) hx hb hts in_RX1 tyX1 tyX1_ok nmX1 hown hK hP hD hS 0 rfl rfl 5 (by decide) (hts _ (List.mem_of_getElem? (i := 1) rfl)) (fun _ h9 => h9) rfl (by decide +kernel) rfl rfl (Nat.le_of_ble_eq_true rfl) dX1_readCommand_73 (fun H locs hP hD hS => ?_)
      have hP : va_P D vwCl [(ic, .inr (5, [.ref o8, .ref oa, .ref fa, .ref sa, .int (nI kc), .int (nI (he + 1))])), (o8, .inr (1, [.ref b8, .int 0, .int ml, .int (nI nn)])), (b8, .inl (cy 1, mm, .inl bx)), (oa, .inl (cy 0, 60, .inl (upd oo k 114))), (fa, .inl (cy 0, 60, .inl (upd fi k 0))), (sa, .inl (cy 0, 60, .inl (upd se k 0)))] H := hP
      have hD : va_D A [(ic, .inr (5, [.ref o8, .ref oa, .ref fa, .ref sa, .int (nI kc), .int (nI (he + 1))])), (o8, .inr (1, [.ref b8, .int 0, .int ml, .int (nI nn)])), (b8, .inl (cy 1, mm, .inl bx)), (oa, .inl (cy 0, 60, .inl (upd oo k 114))), (fa, .inl (cy 0, 60, .inl (upd fi k 0))), (sa, .inl (cy 0, 60, .inl (upd se k 0)))] := hD
      refine lv_aload_n hx hb dX1_readCommand_76 rfl (lv_at hl 0 rfl) ?_
      refine va_get (D := D) (ci := 5) (v := .ref oa) (C := RX1) (T := TX1) (N := 6) hx hb hts in_RX1 hown hK hP 0 rfl rfl 1 (by decide) (hts _ (List.mem_of_getElem? (i := 3) rfl)) (fun _ h9 => h9) rfl dX1_readCommand_77 ?_
      refine lv_iload_n hx hb dX1_readCommand_80 rfl (lv_at hl 1 rfl) ?_
      refine ziald 3 0 k hx hb hK hP rfl rfl (by omega) (z_lt rfl) dX1_readCommand_81 ?_
      refine z_top (y := 114) (upd_s) ?_
      refine lv_tableIn (off := 187) (tgt := 269) hx hb dX1_readCommand_82 (by decide) (by decide) (by decide) (by decide) ?_
      refine lv_aload_n hx hb dX1_readCommand_269 rfl (lv_at hl 0 rfl) ?_
      refine lv_iload_n hx hb dX1_readCommand_270 rfl (lv_at hl 1 rfl) ?_
      refine lv_iconst (v := 2) hx hb dX1_readCommand_271 (by decide) ?_
      refine z_top (y := nI 2) (rfl) ?_
      refine zcV (As := [.int (nI k), .int (nI 2)]) (rest := []) [0, 1, 2, 4] 0 hg.1.1 ⟨hx, hb, hml, hown, hts⟩ (c_X1_readFirst hg l D cy ic oa fa sa kc (he + 1) o8 b8 ml nn bx mm 2 k (upd fi k 0) (by first | assumption | decide | omega) (by first | assumption | decide | omega) (by first | assumption | decide | omega) (by first | assumption | decide | omega) (by first | assumption | decide | omega) (by first | assumption | decide | omega) (by first | assumption | decide | omega) (by first | assumption | decide | omega)) (cwV 2 hts gX1_readCommand_X1_readFirst rfl rfl rfl (by decide +kernel) ⟨Nat.le_of_ble_eq_true rfl, Nat.le_of_ble_eq_true rfl⟩) hG hK hP hD hS hA rfl rfl (Eq.trans (b := [ic, o8, b8, fa]) rfl rfl) rfl rfl rfl hl.1 rfl (Nat.le_of_ble_eq_true rfl) dX1_readCommand_272 ⟨Nat.zero_le _, Nat.zero_le _⟩ (fun H locs hP hD hS => ?_)
      have hP : va_P D vwCl [(ic, .inr (5, [.ref o8, .ref oa, .ref fa, .ref sa, .int (nI kc), .int (nI ((he + 1) + zdN bx nn 2 (he + 1)))])), (o8, .inr (1, [.ref b8, .int 0, .int ml, .int (nI nn)])), (b8, .inl (cy 1, mm, .inl bx)), (oa, .inl (cy 0, 60, .inl (upd oo k 114))), (fa, .inl (cy 0, 60, .inl (upd (upd fi k 0) k (zNu bx nn 2 (he + 1))))), (sa, .inl (cy 0, 60, .inl (upd se k 0)))] H := hP
      have hD : va_D A [(ic, .inr (5, [.ref o8, .ref oa, .ref fa, .ref sa, .int (nI kc), .int (nI ((he + 1) + zdN bx nn 2 (he + 1)))])), (o8, .inr (1, [.ref b8, .int 0, .int ml, .int (nI nn)])), (b8, .inl (cy 1, mm, .inl bx)), (oa, .inl (cy 0, 60, .inl (upd oo k 114))), (fa, .inl (cy 0, 60, .inl (upd (upd fi k 0) k (zNu bx nn 2 (he + 1))))), (sa, .inl (cy 0, 60, .inl (upd se k 0)))] := hD
      exact zzret hend hx hb hr hlk hK hP hD hS dX1_readCommand_275 (zI_nar _) (by rfl) (by simp only [upd_u])
    · exact absurd c_2 (by decide)

abbrev rmX1_readCommand_r100 : Room := { frames := 7, cells := 0, slots := 0, locals := 156 }
set_option maxHeartbeats 4000000 in
set_option maxRecDepth 100000 in
theorem c_X1_readCommand_r100 {G : zG} (hg : zGJ G) (l : Launch) (D : va_G) (cy : Nat → ClassId) (ic : Nat) (oa : Nat) (fa : Nat) (sa : Nat) (kc : Nat) (he : Nat) (o8 : Nat) (b8 : Nat) (ml : Int32) (nn : Nat) (bx : Nat → Int32) (mm : Nat) (ak : Nat) (av : Nat) (oo : Nat → Int32) (fi : Nat → Int32) (se : Nat → Int32) (k : Nat) (hhe : he ≤ 200) (hnm : nn ≤ mm) (hmm : mm ≤ 100) (hch : ∀ j, j < nn → zch (bx j)) (hgl : ∀ (A : Nat → Prop) (U : State), G A U → zLit ak av A U) (hk : k < 60) (hhe6 : he ≤ 60) (hc : zqs bx nn he = 100) : zM G D vwCl (zT cy) l yX1_readCommand wsX1_readCommand rmX1_readCommand_r100 [.ref ic, .int (nI k)] [(ic, .inr (5, [.ref o8, .ref oa, .ref fa, .ref sa, .int (nI kc), .int (nI he)])), (o8, .inr (1, [.ref b8, .int 0, .int ml, .int (nI nn)])), (b8, .inl (cy 1, mm, .inl bx)), (oa, .inl (cy 0, 60, .inl oo)), (fa, .inl (cy 0, 60, .inl fi)), (sa, .inl (cy 0, 60, .inl se))] (some (.int (zI (!(decide (zdN bx nn 2 (he + 1) = 0)))))) [(ic, .inr (5, [.ref o8, .ref oa, .ref fa, .ref sa, .int (nI kc), .int (nI ((he + 1) + zdN bx nn 2 (he + 1)))])), (o8, .inr (1, [.ref b8, .int 0, .int ml, .int (nI nn)])), (b8, .inl (cy 1, mm, .inl bx)), (oa, .inl (cy 0, 60, .inl (upd oo k 100))), (fa, .inl (cy 0, 60, .inl (upd fi k (zNu bx nn 2 (he + 1))))), (sa, .inl (cy 0, 60, .inl (upd se k (0))))] := by
  refine zM_of (cc := cX1_readCommand) (maxL := 2) (ret := (some .boolean)) (by decide) rfl (Nat.le_of_ble_eq_true rfl) ?_
  intro p e s m below meth c A Q hend hx hb hml hr hts hown hlk hG hK hP hD hA hS ls hl
  have hown : s.vm.findClass RX1 = some m.cls := hown
  have in_RX1 : ∀ w ∈ u_ws RX1 TX1 6, w ∈ wsX1_readCommand := by decide +kernel
  have hl : lv_has ls 2 [(0, .ref ic), (1, .int (nI k))] := hl
  have hlt : he < nn := zqs_lt hc (by decide)
  have hb0 : bx he = 100 := by have h9 := hc; rw [zqs, if_pos hlt] at h9; exact h9
  refine lv_aload_n hx hb dX1_readCommand_0 rfl (lv_at hl 0 rfl) ?_
  refine va_get (D := D) (ci := 5) (v := .int (nI he)) (C := RX1) (T := TX1) (N := 6) hx hb hts in_RX1 hown hK hP 0 rfl rfl 5 (by decide) (hts _ (List.mem_of_getElem? (i := 1) rfl)) (fun _ h9 => h9) rfl dX1_readCommand_1 ?_
  refine lv_aload_n hx hb dX1_readCommand_4 rfl (lv_at hl 0 rfl) ?_
  refine va_get (D := D) (ci := 5) (v := .ref o8) (C := RX1) (T := TX1) (N := 6) hx hb hts in_RX1 hown hK hP 0 rfl rfl 0 (by decide) (hts _ (List.mem_of_getElem? (i := 2) rfl)) (fun _ h9 => h9) rfl dX1_readCommand_5 ?_
  refine zcV (As := []) (rest := [.int (nI he)]) [1] 1 hg.1.1 ⟨hx, hb, hml, hown, hts⟩ (c_J4_length_8abf5 hg.1 l D cy o8 b8 ml nn) (cwV 0 hts gX1_readCommand_J4_length_8abf5 rfl rfl rfl (by decide +kernel) ⟨Nat.le_of_ble_eq_true rfl, Nat.le_of_ble_eq_true rfl⟩) hG hK hP hD hS hA rfl rfl rfl rfl rfl rfl hl.1 rfl (Nat.le_of_ble_eq_true rfl) dX1_readCommand_8 ⟨Nat.zero_le _, Nat.zero_le _⟩ (fun H locs hP hD hS => ?_)
  have hP : va_P D vwCl [(ic, .inr (5, [.ref o8, .ref oa, .ref fa, .ref sa, .int (nI kc), .int (nI he)])), (o8, .inr (1, [.ref b8, .int 0, .int ml, .int (nI nn)])), (b8, .inl (cy 1, mm, .inl bx)), (oa, .inl (cy 0, 60, .inl oo)), (fa, .inl (cy 0, 60, .inl fi)), (sa, .inl (cy 0, 60, .inl se))] H := hP
  have hD : va_D A [(ic, .inr (5, [.ref o8, .ref oa, .ref fa, .ref sa, .int (nI kc), .int (nI he)])), (o8, .inr (1, [.ref b8, .int 0, .int ml, .int (nI nn)])), (b8, .inl (cy 1, mm, .inl bx)), (oa, .inl (cy 0, 60, .inl oo)), (fa, .inl (cy 0, 60, .inl fi)), (sa, .inl (cy 0, 60, .inl se))] := hD
  refine lv_icmp_ge (tgt := 33) hx hb dX1_readCommand_11 (by decide) (fun c_1 => ?_) (fun c_1 => ?_)
  · exact absurd ((nI_leI (by omega) (by omega)).mp c_1) (Nat.not_le.mpr hlt)
  · refine va_ldcS hx hb hown (hgl A s hG).1 dX1_readCommand_14 ?_
    refine lv_aload_n hx hb dX1_readCommand_16 rfl (lv_at hl 0 rfl) ?_
    refine va_get (D := D) (ci := 5) (v := .ref o8) (C := RX1) (T := TX1) (N := 6) hx hb hts in_RX1 hown hK hP 0 rfl rfl 0 (by decide) (hts _ (List.mem_of_getElem? (i := 2) rfl)) (fun _ h9 => h9) rfl dX1_readCommand_17 ?_
    refine lv_aload_n hx hb dX1_readCommand_20 rfl (lv_at hl 0 rfl) ?_
    refine va_get (D := D) (ci := 5) (v := .int (nI he)) (C := RX1) (T := TX1) (N := 6) hx hb hts in_RX1 hown hK hP 0 rfl rfl 5 (by decide) (hts _ (List.mem_of_getElem? (i := 1) rfl)) (fun _ h9 => h9) rfl dX1_readCommand_21 ?_
    refine zcV (As := [.int (nI he)]) (rest := [.ref ak]) [1, 2] 1 hg.1.1 ⟨hx, hb, hml, hown, hts⟩ (c_J4_charAt_5068e hg l D cy o8 b8 ml nn bx mm he (by first | assumption | omega) (by first | assumption | omega) (by first | assumption | omega) (by first | assumption | omega)) (cwV 1 hts gX1_readCommand_J4_charAt_5068e rfl rfl rfl (by decide +kernel) ⟨Nat.le_of_ble_eq_true rfl, Nat.le_of_ble_eq_true rfl⟩) hG hK hP hD hS hA rfl rfl rfl rfl rfl rfl hl.1 rfl (Nat.le_of_ble_eq_true rfl) dX1_readCommand_24 ⟨Nat.zero_le _, Nat.zero_le _⟩ (fun H locs hP hD hS => ?_)
    have hP : va_P D vwCl [(ic, .inr (5, [.ref o8, .ref oa, .ref fa, .ref sa, .int (nI kc), .int (nI he)])), (o8, .inr (1, [.ref b8, .int 0, .int ml, .int (nI nn)])), (b8, .inl (cy 1, mm, .inl bx)), (oa, .inl (cy 0, 60, .inl oo)), (fa, .inl (cy 0, 60, .inl fi)), (sa, .inl (cy 0, 60, .inl se))] H := hP
    have hD : va_D A [(ic, .inr (5, [.ref o8, .ref oa, .ref fa, .ref sa, .int (nI kc), .int (nI he)])), (o8, .inr (1, [.ref b8, .int 0, .int ml, .int (nI nn)])), (b8, .inl (cy 1, mm, .inl bx)), (oa, .inl (cy 0, 60, .inl oo)), (fa, .inl (cy 0, 60, .inl fi)), (sa, .inl (cy 0, 60, .inl se))] := hD
    refine z_top (y := 100) (hb0) ?_
    refine zcVK (C := RJ0) (As := [.int 100]) (rest := []) [] hg.1.1 ⟨hx, hb, hml, hown, hts⟩ (c_J0_indexOf_0f7a4 hg l D cy ak av 100 (by first | assumption | omega) (by decide) (by decide) (by decide)) (cwV 1 hts gX1_readCommand_J0_indexOf_0f7a4 rfl rfl rfl (by decide +kernel) ⟨Nat.le_of_ble_eq_true rfl, Nat.le_of_ble_eq_true rfl⟩) (hgl A s hG).2.1 hG hK hP hD hS hA rfl rfl rfl  rfl hl.1 rfl (Nat.le_of_ble_eq_true rfl) dX1_readCommand_27 ⟨Nat.zero_le _, Nat.zero_le _⟩ (fun H locs hP hD hS => ?_)
    have hP : va_P D vwCl [(ic, .inr (5, [.ref o8, .ref oa, .ref fa, .ref sa, .int (nI kc), .int (nI he)])), (o8, .inr (1, [.ref b8, .int 0, .int ml, .int (nI nn)])), (b8, .inl (cy 1, mm, .inl bx)), (oa, .inl (cy 0, 60, .inl oo)), (fa, .inl (cy 0, 60, .inl fi)), (sa, .inl (cy 0, 60, .inl se))] H := hP
    have hD : va_D A [(ic, .inr (5, [.ref o8, .ref oa, .ref fa, .ref sa, .int (nI kc), .int (nI he)])), (o8, .inr (1, [.ref b8, .int 0, .int ml, .int (nI nn)])), (b8, .inl (cy 1, mm, .inl bx)), (oa, .inl (cy 0, 60, .inl oo)), (fa, .inl (cy 0, 60, .inl fi)), (sa, .inl (cy 0, 60, .inl se))] := hD
    refine z_top (y := 4) (by decide) ?_
    refine lv_if_ge (tgt := 35) hx hb dX1_readCommand_30 (by decide) (fun c_2 => ?_) (fun c_2 => ?_)
    · refine lv_aload_n hx hb dX1_readCommand_35 rfl (lv_at hl 0 rfl) ?_
      refine va_get (D := D) (ci := 5) (v := .ref oa) (C := RX1) (T := TX1) (N := 6) hx hb hts in_RX1 hown hK hP 0 rfl rfl 1 (by decide) (hts _ (List.mem_of_getElem? (i := 3) rfl)) (fun _ h9 => h9) rfl dX1_readCommand_36 ?_
      refine lv_iload_n hx hb dX1_readCommand_39 rfl (lv_at hl 1 rfl) ?_
      refine lv_aload_n hx hb dX1_readCommand_40 rfl (lv_at hl 0 rfl) ?_
      refine va_get (D := D) (ci := 5) (v := .ref o8) (C := RX1) (T := TX1) (N := 6) hx hb hts in_RX1 hown hK hP 0 rfl rfl 0 (by decide) (hts _ (List.mem_of_getElem? (i := 2) rfl)) (fun _ h9 => h9) rfl dX1_readCommand_41 ?_
      refine lv_aload_n hx hb dX1_readCommand_44 rfl (lv_at hl 0 rfl) ?_
      refine va_get (D := D) (ci := 5) (v := .int (nI he)) (C := RX1) (T := TX1) (N := 6) hx hb hts in_RX1 hown hK hP 0 rfl rfl 5 (by decide) (hts _ (List.mem_of_getElem? (i := 1) rfl)) (fun _ h9 => h9) rfl dX1_readCommand_45 ?_
      refine zcV (As := [.int (nI he)]) (rest := [.int (nI k), .ref oa]) [1, 2] 1 hg.1.1 ⟨hx, hb, hml, hown, hts⟩ (c_J4_charAt_5068e hg l D cy o8 b8 ml nn bx mm he (by first | assumption | omega) (by first | assumption | omega) (by first | assumption | omega) (by first | assumption | omega)) (cwV 1 hts gX1_readCommand_J4_charAt_5068e rfl rfl rfl (by decide +kernel) ⟨Nat.le_of_ble_eq_true rfl, Nat.le_of_ble_eq_true rfl⟩) hG hK hP hD hS hA rfl rfl rfl rfl rfl rfl hl.1 rfl (Nat.le_of_ble_eq_true rfl) dX1_readCommand_48 ⟨Nat.zero_le _, Nat.zero_le _⟩ (fun H locs hP hD hS => ?_)
      have hP : va_P D vwCl [(ic, .inr (5, [.ref o8, .ref oa, .ref fa, .ref sa, .int (nI kc), .int (nI he)])), (o8, .inr (1, [.ref b8, .int 0, .int ml, .int (nI nn)])), (b8, .inl (cy 1, mm, .inl bx)), (oa, .inl (cy 0, 60, .inl oo)), (fa, .inl (cy 0, 60, .inl fi)), (sa, .inl (cy 0, 60, .inl se))] H := hP
      have hD : va_D A [(ic, .inr (5, [.ref o8, .ref oa, .ref fa, .ref sa, .int (nI kc), .int (nI he)])), (o8, .inr (1, [.ref b8, .int 0, .int ml, .int (nI nn)])), (b8, .inl (cy 1, mm, .inl bx)), (oa, .inl (cy 0, 60, .inl oo)), (fa, .inl (cy 0, 60, .inl fi)), (sa, .inl (cy 0, 60, .inl se))] := hD
      refine z_top (y := 100) (hb0) ?_
      refine ziast 3 0 k hx hb hK hP hD hS rfl rfl (by omega) (z_lt rfl) dX1_readCommand_51 (fun H locs hP hD hS => ?_)
      have hP : va_P D vwCl [(ic, .inr (5, [.ref o8, .ref oa, .ref fa, .ref sa, .int (nI kc), .int (nI he)])), (o8, .inr (1, [.ref b8, .int 0, .int ml, .int (nI nn)])), (b8, .inl (cy 1, mm, .inl bx)), (oa, .inl (cy 0, 60, .inl (upd oo k 100))), (fa, .inl (cy 0, 60, .inl fi)), (sa, .inl (cy 0, 60, .inl se))] H := hP
      have hD : va_D A [(ic, .inr (5, [.ref o8, .ref oa, .ref fa, .ref sa, .int (nI kc), .int (nI he)])), (o8, .inr (1, [.ref b8, .int 0, .int ml, .int (nI nn)])), (b8, .inl (cy 1, mm, .inl bx)), (oa, .inl (cy 0, 60, .inl (upd oo k 100))), (fa, .inl (cy 0, 60, .inl fi)), (sa, .inl (cy 0, 60, .inl se))] := hD
      refine lv_aload_n hx hb dX1_readCommand_52 rfl (lv_at hl 0 rfl) ?_
      refine va_get (D := D) (ci := 5) (v := .ref fa) (C := RX1) (T := TX1) (N := 6) hx hb hts in_RX1 hown hK hP 0 rfl rfl 2 (by decide) (hts _ (List.mem_of_getElem? (i := 4) rfl)) (fun _ h9 => h9) rfl dX1_readCommand_53 ?_
      refine lv_iload_n hx hb dX1_readCommand_56 rfl (lv_at hl 1 rfl) ?_
      refine lv_iconst (v := 0) hx hb dX1_readCommand_57 (by decide) ?_
      refine ziast 4 0 k hx hb hK hP hD hS rfl rfl (by omega) (z_lt rfl) dX1_readCommand_58 (fun H locs hP hD hS => ?_)
      have hP : va_P D vwCl [(ic, .inr (5, [.ref o8, .ref oa, .ref fa, .ref sa, .int (nI kc), .int (nI he)])), (o8, .inr (1, [.ref b8, .int 0, .int ml, .int (nI nn)])), (b8, .inl (cy 1, mm, .inl bx)), (oa, .inl (cy 0, 60, .inl (upd oo k 100))), (fa, .inl (cy 0, 60, .inl (upd fi k 0))), (sa, .inl (cy 0, 60, .inl se))] H := hP
      have hD : va_D A [(ic, .inr (5, [.ref o8, .ref oa, .ref fa, .ref sa, .int (nI kc), .int (nI he)])), (o8, .inr (1, [.ref b8, .int 0, .int ml, .int (nI nn)])), (b8, .inl (cy 1, mm, .inl bx)), (oa, .inl (cy 0, 60, .inl (upd oo k 100))), (fa, .inl (cy 0, 60, .inl (upd fi k 0))), (sa, .inl (cy 0, 60, .inl se))] := hD
      refine lv_aload_n hx hb dX1_readCommand_59 rfl (lv_at hl 0 rfl) ?_
      refine va_get (D := D) (ci := 5) (v := .ref sa) (C := RX1) (T := TX1) (N := 6) hx hb hts in_RX1 hown hK hP 0 rfl rfl 3 (by decide) (hts _ (List.mem_of_getElem? (i := 5) rfl)) (fun _ h9 => h9) rfl dX1_readCommand_60 ?_
      refine lv_iload_n hx hb dX1_readCommand_63 rfl (lv_at hl 1 rfl) ?_
      refine lv_iconst (v := 0) hx hb dX1_readCommand_64 (by decide) ?_
      refine ziast 5 0 k hx hb hK hP hD hS rfl rfl (by omega) (z_lt rfl) dX1_readCommand_65 (fun H locs hP hD hS => ?_)
      have hP : va_P D vwCl [(ic, .inr (5, [.ref o8, .ref oa, .ref fa, .ref sa, .int (nI kc), .int (nI he)])), (o8, .inr (1, [.ref b8, .int 0, .int ml, .int (nI nn)])), (b8, .inl (cy 1, mm, .inl bx)), (oa, .inl (cy 0, 60, .inl (upd oo k 100))), (fa, .inl (cy 0, 60, .inl (upd fi k 0))), (sa, .inl (cy 0, 60, .inl (upd se k 0)))] H := hP
      have hD : va_D A [(ic, .inr (5, [.ref o8, .ref oa, .ref fa, .ref sa, .int (nI kc), .int (nI he)])), (o8, .inr (1, [.ref b8, .int 0, .int ml, .int (nI nn)])), (b8, .inl (cy 1, mm, .inl bx)), (oa, .inl (cy 0, 60, .inl (upd oo k 100))), (fa, .inl (cy 0, 60, .inl (upd fi k 0))), (sa, .inl (cy 0, 60, .inl (upd se k 0)))] := hD
      refine lv_aload_n hx hb dX1_readCommand_66 rfl (lv_at hl 0 rfl) ?_
      refine lv_dup hx hb dX1_readCommand_67 rfl ?_
      refine va_get (D := D) (ci := 5) (v := .int (nI he)) (C := RX1) (T := TX1) (N := 6) hx hb hts in_RX1 hown hK hP 0 rfl rfl 5 (by decide) (hts _ (List.mem_of_getElem? (i := 1) rfl)) (fun _ h9 => h9) rfl dX1_readCommand_68 ?_
      refine lv_iconst (v := 1) hx hb dX1_readCommand_71 (by decide) ?_
      refine lv_iadd hx hb dX1_readCommand_72 ?_
      refine z_top (y := nI (he + 1)) (nI_add he 1) ?_
      refine va_put (D := D) (ci := 5) (v := .int (nI (he + 1))) (ty := .int) (C := RX1) (T := TX1) (N := 6) hx hb hts in_RX1 tyX1 tyX1_ok nmX1 hown hK hP hD hS 0 rfl rfl 5 (by decide) (hts _ (List.mem_of_getElem? (i := 1) rfl)) (fun _ h9 => h9) rfl (by decide +kernel) rfl rfl (Nat.le_of_ble_eq_true rfl) dX1_readCommand_73 (fun H locs hP hD hS => ?_)
      have hP : va_P D vwCl [(ic, .inr (5, [.ref o8, .ref oa, .ref fa, .ref sa, .int (nI kc), .int (nI (he + 1))])), (o8, .inr (1, [.ref b8, .int 0, .int ml, .int (nI nn)])), (b8, .inl (cy 1, mm, .inl bx)), (oa, .inl (cy 0, 60, .inl (upd oo k 100))), (fa, .inl (cy 0, 60, .inl (upd fi k 0))), (sa, .inl (cy 0, 60, .inl (upd se k 0)))] H := hP
      have hD : va_D A [(ic, .inr (5, [.ref o8, .ref oa, .ref fa, .ref sa, .int (nI kc), .int (nI (he + 1))])), (o8, .inr (1, [.ref b8, .int 0, .int ml, .int (nI nn)])), (b8, .inl (cy 1, mm, .inl bx)), (oa, .inl (cy 0, 60, .inl (upd oo k 100))), (fa, .inl (cy 0, 60, .inl (upd fi k 0))), (sa, .inl (cy 0, 60, .inl (upd se k 0)))] := hD
      refine lv_aload_n hx hb dX1_readCommand_76 rfl (lv_at hl 0 rfl) ?_
      refine va_get (D := D) (ci := 5) (v := .ref oa) (C := RX1) (T := TX1) (N := 6) hx hb hts in_RX1 hown hK hP 0 rfl rfl 1 (by decide) (hts _ (List.mem_of_getElem? (i := 3) rfl)) (fun _ h9 => h9) rfl dX1_readCommand_77 ?_
      refine lv_iload_n hx hb dX1_readCommand_80 rfl (lv_at hl 1 rfl) ?_
      refine ziald 3 0 k hx hb hK hP rfl rfl (by omega) (z_lt rfl) dX1_readCommand_81 ?_
      refine z_top (y := 100) (upd_s) ?_
      refine lv_tableIn (off := 187) (tgt := 269) hx hb dX1_readCommand_82 (by decide) (by decide) (by decide) (by decide) ?_
      refine lv_aload_n hx hb dX1_readCommand_269 rfl (lv_at hl 0 rfl) ?_
      refine lv_iload_n hx hb dX1_readCommand_270 rfl (lv_at hl 1 rfl) ?_
      refine lv_iconst (v := 2) hx hb dX1_readCommand_271 (by decide) ?_
      refine z_top (y := nI 2) (rfl) ?_
      refine zcV (As := [.int (nI k), .int (nI 2)]) (rest := []) [0, 1, 2, 4] 0 hg.1.1 ⟨hx, hb, hml, hown, hts⟩ (c_X1_readFirst hg l D cy ic oa fa sa kc (he + 1) o8 b8 ml nn bx mm 2 k (upd fi k 0) (by first | assumption | decide | omega) (by first | assumption | decide | omega) (by first | assumption | decide | omega) (by first | assumption | decide | omega) (by first | assumption | decide | omega) (by first | assumption | decide | omega) (by first | assumption | decide | omega) (by first | assumption | decide | omega)) (cwV 2 hts gX1_readCommand_X1_readFirst rfl rfl rfl (by decide +kernel) ⟨Nat.le_of_ble_eq_true rfl, Nat.le_of_ble_eq_true rfl⟩) hG hK hP hD hS hA rfl rfl (Eq.trans (b := [ic, o8, b8, fa]) rfl rfl) rfl rfl rfl hl.1 rfl (Nat.le_of_ble_eq_true rfl) dX1_readCommand_272 ⟨Nat.zero_le _, Nat.zero_le _⟩ (fun H locs hP hD hS => ?_)
      have hP : va_P D vwCl [(ic, .inr (5, [.ref o8, .ref oa, .ref fa, .ref sa, .int (nI kc), .int (nI ((he + 1) + zdN bx nn 2 (he + 1)))])), (o8, .inr (1, [.ref b8, .int 0, .int ml, .int (nI nn)])), (b8, .inl (cy 1, mm, .inl bx)), (oa, .inl (cy 0, 60, .inl (upd oo k 100))), (fa, .inl (cy 0, 60, .inl (upd (upd fi k 0) k (zNu bx nn 2 (he + 1))))), (sa, .inl (cy 0, 60, .inl (upd se k 0)))] H := hP
      have hD : va_D A [(ic, .inr (5, [.ref o8, .ref oa, .ref fa, .ref sa, .int (nI kc), .int (nI ((he + 1) + zdN bx nn 2 (he + 1)))])), (o8, .inr (1, [.ref b8, .int 0, .int ml, .int (nI nn)])), (b8, .inl (cy 1, mm, .inl bx)), (oa, .inl (cy 0, 60, .inl (upd oo k 100))), (fa, .inl (cy 0, 60, .inl (upd (upd fi k 0) k (zNu bx nn 2 (he + 1))))), (sa, .inl (cy 0, 60, .inl (upd se k 0)))] := hD
      exact zzret hend hx hb hr hlk hK hP hD hS dX1_readCommand_275 (zI_nar _) (by rfl) (by simp only [upd_u])
    · exact absurd c_2 (by decide)

abbrev rmX1_readCommand_r117 : Room := { frames := 7, cells := 0, slots := 0, locals := 156 }
set_option maxHeartbeats 4000000 in
set_option maxRecDepth 100000 in
theorem c_X1_readCommand_r117 {G : zG} (hg : zGJ G) (l : Launch) (D : va_G) (cy : Nat → ClassId) (ic : Nat) (oa : Nat) (fa : Nat) (sa : Nat) (kc : Nat) (he : Nat) (o8 : Nat) (b8 : Nat) (ml : Int32) (nn : Nat) (bx : Nat → Int32) (mm : Nat) (ak : Nat) (av : Nat) (oo : Nat → Int32) (fi : Nat → Int32) (se : Nat → Int32) (k : Nat) (hhe : he ≤ 200) (hnm : nn ≤ mm) (hmm : mm ≤ 100) (hch : ∀ j, j < nn → zch (bx j)) (hgl : ∀ (A : Nat → Prop) (U : State), G A U → zLit ak av A U) (hk : k < 60) (hhe6 : he ≤ 60) (hc : zqs bx nn he = 117) : zM G D vwCl (zT cy) l yX1_readCommand wsX1_readCommand rmX1_readCommand_r117 [.ref ic, .int (nI k)] [(ic, .inr (5, [.ref o8, .ref oa, .ref fa, .ref sa, .int (nI kc), .int (nI he)])), (o8, .inr (1, [.ref b8, .int 0, .int ml, .int (nI nn)])), (b8, .inl (cy 1, mm, .inl bx)), (oa, .inl (cy 0, 60, .inl oo)), (fa, .inl (cy 0, 60, .inl fi)), (sa, .inl (cy 0, 60, .inl se))] (some (.int (zI (!(decide (zdN bx nn 2 (he + 1) = 0)))))) [(ic, .inr (5, [.ref o8, .ref oa, .ref fa, .ref sa, .int (nI kc), .int (nI ((he + 1) + zdN bx nn 2 (he + 1)))])), (o8, .inr (1, [.ref b8, .int 0, .int ml, .int (nI nn)])), (b8, .inl (cy 1, mm, .inl bx)), (oa, .inl (cy 0, 60, .inl (upd oo k 117))), (fa, .inl (cy 0, 60, .inl (upd fi k (zNu bx nn 2 (he + 1))))), (sa, .inl (cy 0, 60, .inl (upd se k (0))))] := by
  refine zM_of (cc := cX1_readCommand) (maxL := 2) (ret := (some .boolean)) (by decide) rfl (Nat.le_of_ble_eq_true rfl) ?_
  intro p e s m below meth c A Q hend hx hb hml hr hts hown hlk hG hK hP hD hA hS ls hl
  have hown : s.vm.findClass RX1 = some m.cls := hown
  have in_RX1 : ∀ w ∈ u_ws RX1 TX1 6, w ∈ wsX1_readCommand := by decide +kernel
  have hl : lv_has ls 2 [(0, .ref ic), (1, .int (nI k))] := hl
  have hlt : he < nn := zqs_lt hc (by decide)
  have hb0 : bx he = 117 := by have h9 := hc; rw [zqs, if_pos hlt] at h9; exact h9
  refine lv_aload_n hx hb dX1_readCommand_0 rfl (lv_at hl 0 rfl) ?_
  refine va_get (D := D) (ci := 5) (v := .int (nI he)) (C := RX1) (T := TX1) (N := 6) hx hb hts in_RX1 hown hK hP 0 rfl rfl 5 (by decide) (hts _ (List.mem_of_getElem? (i := 1) rfl)) (fun _ h9 => h9) rfl dX1_readCommand_1 ?_
  refine lv_aload_n hx hb dX1_readCommand_4 rfl (lv_at hl 0 rfl) ?_
  refine va_get (D := D) (ci := 5) (v := .ref o8) (C := RX1) (T := TX1) (N := 6) hx hb hts in_RX1 hown hK hP 0 rfl rfl 0 (by decide) (hts _ (List.mem_of_getElem? (i := 2) rfl)) (fun _ h9 => h9) rfl dX1_readCommand_5 ?_
  refine zcV (As := []) (rest := [.int (nI he)]) [1] 1 hg.1.1 ⟨hx, hb, hml, hown, hts⟩ (c_J4_length_8abf5 hg.1 l D cy o8 b8 ml nn) (cwV 0 hts gX1_readCommand_J4_length_8abf5 rfl rfl rfl (by decide +kernel) ⟨Nat.le_of_ble_eq_true rfl, Nat.le_of_ble_eq_true rfl⟩) hG hK hP hD hS hA rfl rfl rfl rfl rfl rfl hl.1 rfl (Nat.le_of_ble_eq_true rfl) dX1_readCommand_8 ⟨Nat.zero_le _, Nat.zero_le _⟩ (fun H locs hP hD hS => ?_)
  have hP : va_P D vwCl [(ic, .inr (5, [.ref o8, .ref oa, .ref fa, .ref sa, .int (nI kc), .int (nI he)])), (o8, .inr (1, [.ref b8, .int 0, .int ml, .int (nI nn)])), (b8, .inl (cy 1, mm, .inl bx)), (oa, .inl (cy 0, 60, .inl oo)), (fa, .inl (cy 0, 60, .inl fi)), (sa, .inl (cy 0, 60, .inl se))] H := hP
  have hD : va_D A [(ic, .inr (5, [.ref o8, .ref oa, .ref fa, .ref sa, .int (nI kc), .int (nI he)])), (o8, .inr (1, [.ref b8, .int 0, .int ml, .int (nI nn)])), (b8, .inl (cy 1, mm, .inl bx)), (oa, .inl (cy 0, 60, .inl oo)), (fa, .inl (cy 0, 60, .inl fi)), (sa, .inl (cy 0, 60, .inl se))] := hD
  refine lv_icmp_ge (tgt := 33) hx hb dX1_readCommand_11 (by decide) (fun c_1 => ?_) (fun c_1 => ?_)
  · exact absurd ((nI_leI (by omega) (by omega)).mp c_1) (Nat.not_le.mpr hlt)
  · refine va_ldcS hx hb hown (hgl A s hG).1 dX1_readCommand_14 ?_
    refine lv_aload_n hx hb dX1_readCommand_16 rfl (lv_at hl 0 rfl) ?_
    refine va_get (D := D) (ci := 5) (v := .ref o8) (C := RX1) (T := TX1) (N := 6) hx hb hts in_RX1 hown hK hP 0 rfl rfl 0 (by decide) (hts _ (List.mem_of_getElem? (i := 2) rfl)) (fun _ h9 => h9) rfl dX1_readCommand_17 ?_
    refine lv_aload_n hx hb dX1_readCommand_20 rfl (lv_at hl 0 rfl) ?_
    refine va_get (D := D) (ci := 5) (v := .int (nI he)) (C := RX1) (T := TX1) (N := 6) hx hb hts in_RX1 hown hK hP 0 rfl rfl 5 (by decide) (hts _ (List.mem_of_getElem? (i := 1) rfl)) (fun _ h9 => h9) rfl dX1_readCommand_21 ?_
    refine zcV (As := [.int (nI he)]) (rest := [.ref ak]) [1, 2] 1 hg.1.1 ⟨hx, hb, hml, hown, hts⟩ (c_J4_charAt_5068e hg l D cy o8 b8 ml nn bx mm he (by first | assumption | omega) (by first | assumption | omega) (by first | assumption | omega) (by first | assumption | omega)) (cwV 1 hts gX1_readCommand_J4_charAt_5068e rfl rfl rfl (by decide +kernel) ⟨Nat.le_of_ble_eq_true rfl, Nat.le_of_ble_eq_true rfl⟩) hG hK hP hD hS hA rfl rfl rfl rfl rfl rfl hl.1 rfl (Nat.le_of_ble_eq_true rfl) dX1_readCommand_24 ⟨Nat.zero_le _, Nat.zero_le _⟩ (fun H locs hP hD hS => ?_)
    have hP : va_P D vwCl [(ic, .inr (5, [.ref o8, .ref oa, .ref fa, .ref sa, .int (nI kc), .int (nI he)])), (o8, .inr (1, [.ref b8, .int 0, .int ml, .int (nI nn)])), (b8, .inl (cy 1, mm, .inl bx)), (oa, .inl (cy 0, 60, .inl oo)), (fa, .inl (cy 0, 60, .inl fi)), (sa, .inl (cy 0, 60, .inl se))] H := hP
    have hD : va_D A [(ic, .inr (5, [.ref o8, .ref oa, .ref fa, .ref sa, .int (nI kc), .int (nI he)])), (o8, .inr (1, [.ref b8, .int 0, .int ml, .int (nI nn)])), (b8, .inl (cy 1, mm, .inl bx)), (oa, .inl (cy 0, 60, .inl oo)), (fa, .inl (cy 0, 60, .inl fi)), (sa, .inl (cy 0, 60, .inl se))] := hD
    refine z_top (y := 117) (hb0) ?_
    refine zcVK (C := RJ0) (As := [.int 117]) (rest := []) [] hg.1.1 ⟨hx, hb, hml, hown, hts⟩ (c_J0_indexOf_0f7a4 hg l D cy ak av 117 (by first | assumption | omega) (by decide) (by decide) (by decide)) (cwV 1 hts gX1_readCommand_J0_indexOf_0f7a4 rfl rfl rfl (by decide +kernel) ⟨Nat.le_of_ble_eq_true rfl, Nat.le_of_ble_eq_true rfl⟩) (hgl A s hG).2.1 hG hK hP hD hS hA rfl rfl rfl  rfl hl.1 rfl (Nat.le_of_ble_eq_true rfl) dX1_readCommand_27 ⟨Nat.zero_le _, Nat.zero_le _⟩ (fun H locs hP hD hS => ?_)
    have hP : va_P D vwCl [(ic, .inr (5, [.ref o8, .ref oa, .ref fa, .ref sa, .int (nI kc), .int (nI he)])), (o8, .inr (1, [.ref b8, .int 0, .int ml, .int (nI nn)])), (b8, .inl (cy 1, mm, .inl bx)), (oa, .inl (cy 0, 60, .inl oo)), (fa, .inl (cy 0, 60, .inl fi)), (sa, .inl (cy 0, 60, .inl se))] H := hP
    have hD : va_D A [(ic, .inr (5, [.ref o8, .ref oa, .ref fa, .ref sa, .int (nI kc), .int (nI he)])), (o8, .inr (1, [.ref b8, .int 0, .int ml, .int (nI nn)])), (b8, .inl (cy 1, mm, .inl bx)), (oa, .inl (cy 0, 60, .inl oo)), (fa, .inl (cy 0, 60, .inl fi)), (sa, .inl (cy 0, 60, .inl se))] := hD
    refine z_top (y := 5) (by decide) ?_
    refine lv_if_ge (tgt := 35) hx hb dX1_readCommand_30 (by decide) (fun c_2 => ?_) (fun c_2 => ?_)
    · refine lv_aload_n hx hb dX1_readCommand_35 rfl (lv_at hl 0 rfl) ?_
      refine va_get (D := D) (ci := 5) (v := .ref oa) (C := RX1) (T := TX1) (N := 6) hx hb hts in_RX1 hown hK hP 0 rfl rfl 1 (by decide) (hts _ (List.mem_of_getElem? (i := 3) rfl)) (fun _ h9 => h9) rfl dX1_readCommand_36 ?_
      refine lv_iload_n hx hb dX1_readCommand_39 rfl (lv_at hl 1 rfl) ?_
      refine lv_aload_n hx hb dX1_readCommand_40 rfl (lv_at hl 0 rfl) ?_
      refine va_get (D := D) (ci := 5) (v := .ref o8) (C := RX1) (T := TX1) (N := 6) hx hb hts in_RX1 hown hK hP 0 rfl rfl 0 (by decide) (hts _ (List.mem_of_getElem? (i := 2) rfl)) (fun _ h9 => h9) rfl dX1_readCommand_41 ?_
      refine lv_aload_n hx hb dX1_readCommand_44 rfl (lv_at hl 0 rfl) ?_
      refine va_get (D := D) (ci := 5) (v := .int (nI he)) (C := RX1) (T := TX1) (N := 6) hx hb hts in_RX1 hown hK hP 0 rfl rfl 5 (by decide) (hts _ (List.mem_of_getElem? (i := 1) rfl)) (fun _ h9 => h9) rfl dX1_readCommand_45 ?_
      refine zcV (As := [.int (nI he)]) (rest := [.int (nI k), .ref oa]) [1, 2] 1 hg.1.1 ⟨hx, hb, hml, hown, hts⟩ (c_J4_charAt_5068e hg l D cy o8 b8 ml nn bx mm he (by first | assumption | omega) (by first | assumption | omega) (by first | assumption | omega) (by first | assumption | omega)) (cwV 1 hts gX1_readCommand_J4_charAt_5068e rfl rfl rfl (by decide +kernel) ⟨Nat.le_of_ble_eq_true rfl, Nat.le_of_ble_eq_true rfl⟩) hG hK hP hD hS hA rfl rfl rfl rfl rfl rfl hl.1 rfl (Nat.le_of_ble_eq_true rfl) dX1_readCommand_48 ⟨Nat.zero_le _, Nat.zero_le _⟩ (fun H locs hP hD hS => ?_)
      have hP : va_P D vwCl [(ic, .inr (5, [.ref o8, .ref oa, .ref fa, .ref sa, .int (nI kc), .int (nI he)])), (o8, .inr (1, [.ref b8, .int 0, .int ml, .int (nI nn)])), (b8, .inl (cy 1, mm, .inl bx)), (oa, .inl (cy 0, 60, .inl oo)), (fa, .inl (cy 0, 60, .inl fi)), (sa, .inl (cy 0, 60, .inl se))] H := hP
      have hD : va_D A [(ic, .inr (5, [.ref o8, .ref oa, .ref fa, .ref sa, .int (nI kc), .int (nI he)])), (o8, .inr (1, [.ref b8, .int 0, .int ml, .int (nI nn)])), (b8, .inl (cy 1, mm, .inl bx)), (oa, .inl (cy 0, 60, .inl oo)), (fa, .inl (cy 0, 60, .inl fi)), (sa, .inl (cy 0, 60, .inl se))] := hD
      refine z_top (y := 117) (hb0) ?_
      refine ziast 3 0 k hx hb hK hP hD hS rfl rfl (by omega) (z_lt rfl) dX1_readCommand_51 (fun H locs hP hD hS => ?_)
      have hP : va_P D vwCl [(ic, .inr (5, [.ref o8, .ref oa, .ref fa, .ref sa, .int (nI kc), .int (nI he)])), (o8, .inr (1, [.ref b8, .int 0, .int ml, .int (nI nn)])), (b8, .inl (cy 1, mm, .inl bx)), (oa, .inl (cy 0, 60, .inl (upd oo k 117))), (fa, .inl (cy 0, 60, .inl fi)), (sa, .inl (cy 0, 60, .inl se))] H := hP
      have hD : va_D A [(ic, .inr (5, [.ref o8, .ref oa, .ref fa, .ref sa, .int (nI kc), .int (nI he)])), (o8, .inr (1, [.ref b8, .int 0, .int ml, .int (nI nn)])), (b8, .inl (cy 1, mm, .inl bx)), (oa, .inl (cy 0, 60, .inl (upd oo k 117))), (fa, .inl (cy 0, 60, .inl fi)), (sa, .inl (cy 0, 60, .inl se))] := hD
      refine lv_aload_n hx hb dX1_readCommand_52 rfl (lv_at hl 0 rfl) ?_
      refine va_get (D := D) (ci := 5) (v := .ref fa) (C := RX1) (T := TX1) (N := 6) hx hb hts in_RX1 hown hK hP 0 rfl rfl 2 (by decide) (hts _ (List.mem_of_getElem? (i := 4) rfl)) (fun _ h9 => h9) rfl dX1_readCommand_53 ?_
      refine lv_iload_n hx hb dX1_readCommand_56 rfl (lv_at hl 1 rfl) ?_
      refine lv_iconst (v := 0) hx hb dX1_readCommand_57 (by decide) ?_
      refine ziast 4 0 k hx hb hK hP hD hS rfl rfl (by omega) (z_lt rfl) dX1_readCommand_58 (fun H locs hP hD hS => ?_)
      have hP : va_P D vwCl [(ic, .inr (5, [.ref o8, .ref oa, .ref fa, .ref sa, .int (nI kc), .int (nI he)])), (o8, .inr (1, [.ref b8, .int 0, .int ml, .int (nI nn)])), (b8, .inl (cy 1, mm, .inl bx)), (oa, .inl (cy 0, 60, .inl (upd oo k 117))), (fa, .inl (cy 0, 60, .inl (upd fi k 0))), (sa, .inl (cy 0, 60, .inl se))] H := hP
      have hD : va_D A [(ic, .inr (5, [.ref o8, .ref oa, .ref fa, .ref sa, .int (nI kc), .int (nI he)])), (o8, .inr (1, [.ref b8, .int 0, .int ml, .int (nI nn)])), (b8, .inl (cy 1, mm, .inl bx)), (oa, .inl (cy 0, 60, .inl (upd oo k 117))), (fa, .inl (cy 0, 60, .inl (upd fi k 0))), (sa, .inl (cy 0, 60, .inl se))] := hD
      refine lv_aload_n hx hb dX1_readCommand_59 rfl (lv_at hl 0 rfl) ?_
      refine va_get (D := D) (ci := 5) (v := .ref sa) (C := RX1) (T := TX1) (N := 6) hx hb hts in_RX1 hown hK hP 0 rfl rfl 3 (by decide) (hts _ (List.mem_of_getElem? (i := 5) rfl)) (fun _ h9 => h9) rfl dX1_readCommand_60 ?_
      refine lv_iload_n hx hb dX1_readCommand_63 rfl (lv_at hl 1 rfl) ?_
      refine lv_iconst (v := 0) hx hb dX1_readCommand_64 (by decide) ?_
      refine ziast 5 0 k hx hb hK hP hD hS rfl rfl (by omega) (z_lt rfl) dX1_readCommand_65 (fun H locs hP hD hS => ?_)
      have hP : va_P D vwCl [(ic, .inr (5, [.ref o8, .ref oa, .ref fa, .ref sa, .int (nI kc), .int (nI he)])), (o8, .inr (1, [.ref b8, .int 0, .int ml, .int (nI nn)])), (b8, .inl (cy 1, mm, .inl bx)), (oa, .inl (cy 0, 60, .inl (upd oo k 117))), (fa, .inl (cy 0, 60, .inl (upd fi k 0))), (sa, .inl (cy 0, 60, .inl (upd se k 0)))] H := hP
      have hD : va_D A [(ic, .inr (5, [.ref o8, .ref oa, .ref fa, .ref sa, .int (nI kc), .int (nI he)])), (o8, .inr (1, [.ref b8, .int 0, .int ml, .int (nI nn)])), (b8, .inl (cy 1, mm, .inl bx)), (oa, .inl (cy 0, 60, .inl (upd oo k 117))), (fa, .inl (cy 0, 60, .inl (upd fi k 0))), (sa, .inl (cy 0, 60, .inl (upd se k 0)))] := hD
      refine lv_aload_n hx hb dX1_readCommand_66 rfl (lv_at hl 0 rfl) ?_
      refine lv_dup hx hb dX1_readCommand_67 rfl ?_
      refine va_get (D := D) (ci := 5) (v := .int (nI he)) (C := RX1) (T := TX1) (N := 6) hx hb hts in_RX1 hown hK hP 0 rfl rfl 5 (by decide) (hts _ (List.mem_of_getElem? (i := 1) rfl)) (fun _ h9 => h9) rfl dX1_readCommand_68 ?_
      refine lv_iconst (v := 1) hx hb dX1_readCommand_71 (by decide) ?_
      refine lv_iadd hx hb dX1_readCommand_72 ?_
      refine z_top (y := nI (he + 1)) (nI_add he 1) ?_
      refine va_put (D := D) (ci := 5) (v := .int (nI (he + 1))) (ty := .int) (C := RX1) (T := TX1) (N := 6) hx hb hts in_RX1 tyX1 tyX1_ok nmX1 hown hK hP hD hS 0 rfl rfl 5 (by decide) (hts _ (List.mem_of_getElem? (i := 1) rfl)) (fun _ h9 => h9) rfl (by decide +kernel) rfl rfl (Nat.le_of_ble_eq_true rfl) dX1_readCommand_73 (fun H locs hP hD hS => ?_)
      have hP : va_P D vwCl [(ic, .inr (5, [.ref o8, .ref oa, .ref fa, .ref sa, .int (nI kc), .int (nI (he + 1))])), (o8, .inr (1, [.ref b8, .int 0, .int ml, .int (nI nn)])), (b8, .inl (cy 1, mm, .inl bx)), (oa, .inl (cy 0, 60, .inl (upd oo k 117))), (fa, .inl (cy 0, 60, .inl (upd fi k 0))), (sa, .inl (cy 0, 60, .inl (upd se k 0)))] H := hP
      have hD : va_D A [(ic, .inr (5, [.ref o8, .ref oa, .ref fa, .ref sa, .int (nI kc), .int (nI (he + 1))])), (o8, .inr (1, [.ref b8, .int 0, .int ml, .int (nI nn)])), (b8, .inl (cy 1, mm, .inl bx)), (oa, .inl (cy 0, 60, .inl (upd oo k 117))), (fa, .inl (cy 0, 60, .inl (upd fi k 0))), (sa, .inl (cy 0, 60, .inl (upd se k 0)))] := hD
      refine lv_aload_n hx hb dX1_readCommand_76 rfl (lv_at hl 0 rfl) ?_
      refine va_get (D := D) (ci := 5) (v := .ref oa) (C := RX1) (T := TX1) (N := 6) hx hb hts in_RX1 hown hK hP 0 rfl rfl 1 (by decide) (hts _ (List.mem_of_getElem? (i := 3) rfl)) (fun _ h9 => h9) rfl dX1_readCommand_77 ?_
      refine lv_iload_n hx hb dX1_readCommand_80 rfl (lv_at hl 1 rfl) ?_
      refine ziald 3 0 k hx hb hK hP rfl rfl (by omega) (z_lt rfl) dX1_readCommand_81 ?_
      refine z_top (y := 117) (upd_s) ?_
      refine lv_tableIn (off := 187) (tgt := 269) hx hb dX1_readCommand_82 (by decide) (by decide) (by decide) (by decide) ?_
      refine lv_aload_n hx hb dX1_readCommand_269 rfl (lv_at hl 0 rfl) ?_
      refine lv_iload_n hx hb dX1_readCommand_270 rfl (lv_at hl 1 rfl) ?_
      refine lv_iconst (v := 2) hx hb dX1_readCommand_271 (by decide) ?_
      refine z_top (y := nI 2) (rfl) ?_
      refine zcV (As := [.int (nI k), .int (nI 2)]) (rest := []) [0, 1, 2, 4] 0 hg.1.1 ⟨hx, hb, hml, hown, hts⟩ (c_X1_readFirst hg l D cy ic oa fa sa kc (he + 1) o8 b8 ml nn bx mm 2 k (upd fi k 0) (by first | assumption | decide | omega) (by first | assumption | decide | omega) (by first | assumption | decide | omega) (by first | assumption | decide | omega) (by first | assumption | decide | omega) (by first | assumption | decide | omega) (by first | assumption | decide | omega) (by first | assumption | decide | omega)) (cwV 2 hts gX1_readCommand_X1_readFirst rfl rfl rfl (by decide +kernel) ⟨Nat.le_of_ble_eq_true rfl, Nat.le_of_ble_eq_true rfl⟩) hG hK hP hD hS hA rfl rfl (Eq.trans (b := [ic, o8, b8, fa]) rfl rfl) rfl rfl rfl hl.1 rfl (Nat.le_of_ble_eq_true rfl) dX1_readCommand_272 ⟨Nat.zero_le _, Nat.zero_le _⟩ (fun H locs hP hD hS => ?_)
      have hP : va_P D vwCl [(ic, .inr (5, [.ref o8, .ref oa, .ref fa, .ref sa, .int (nI kc), .int (nI ((he + 1) + zdN bx nn 2 (he + 1)))])), (o8, .inr (1, [.ref b8, .int 0, .int ml, .int (nI nn)])), (b8, .inl (cy 1, mm, .inl bx)), (oa, .inl (cy 0, 60, .inl (upd oo k 117))), (fa, .inl (cy 0, 60, .inl (upd (upd fi k 0) k (zNu bx nn 2 (he + 1))))), (sa, .inl (cy 0, 60, .inl (upd se k 0)))] H := hP
      have hD : va_D A [(ic, .inr (5, [.ref o8, .ref oa, .ref fa, .ref sa, .int (nI kc), .int (nI ((he + 1) + zdN bx nn 2 (he + 1)))])), (o8, .inr (1, [.ref b8, .int 0, .int ml, .int (nI nn)])), (b8, .inl (cy 1, mm, .inl bx)), (oa, .inl (cy 0, 60, .inl (upd oo k 117))), (fa, .inl (cy 0, 60, .inl (upd (upd fi k 0) k (zNu bx nn 2 (he + 1))))), (sa, .inl (cy 0, 60, .inl (upd se k 0)))] := hD
      exact zzret hend hx hb hr hlk hK hP hD hS dX1_readCommand_275 (zI_nar _) (by rfl) (by simp only [upd_u])
    · exact absurd c_2 (by decide)

abbrev rmX1_readCommand_r108 : Room := { frames := 7, cells := 0, slots := 0, locals := 156 }
set_option maxHeartbeats 4000000 in
set_option maxRecDepth 100000 in
theorem c_X1_readCommand_r108 {G : zG} (hg : zGJ G) (l : Launch) (D : va_G) (cy : Nat → ClassId) (ic : Nat) (oa : Nat) (fa : Nat) (sa : Nat) (kc : Nat) (he : Nat) (o8 : Nat) (b8 : Nat) (ml : Int32) (nn : Nat) (bx : Nat → Int32) (mm : Nat) (ak : Nat) (av : Nat) (oo : Nat → Int32) (fi : Nat → Int32) (se : Nat → Int32) (k : Nat) (hhe : he ≤ 200) (hnm : nn ≤ mm) (hmm : mm ≤ 100) (hch : ∀ j, j < nn → zch (bx j)) (hgl : ∀ (A : Nat → Prop) (U : State), G A U → zLit ak av A U) (hk : k < 60) (hhe6 : he ≤ 60) (hc : zqs bx nn he = 108) : zM G D vwCl (zT cy) l yX1_readCommand wsX1_readCommand rmX1_readCommand_r108 [.ref ic, .int (nI k)] [(ic, .inr (5, [.ref o8, .ref oa, .ref fa, .ref sa, .int (nI kc), .int (nI he)])), (o8, .inr (1, [.ref b8, .int 0, .int ml, .int (nI nn)])), (b8, .inl (cy 1, mm, .inl bx)), (oa, .inl (cy 0, 60, .inl oo)), (fa, .inl (cy 0, 60, .inl fi)), (sa, .inl (cy 0, 60, .inl se))] (some (.int (zI (!(decide (zdN bx nn 2 (he + 1) = 0)))))) [(ic, .inr (5, [.ref o8, .ref oa, .ref fa, .ref sa, .int (nI kc), .int (nI ((he + 1) + zdN bx nn 2 (he + 1)))])), (o8, .inr (1, [.ref b8, .int 0, .int ml, .int (nI nn)])), (b8, .inl (cy 1, mm, .inl bx)), (oa, .inl (cy 0, 60, .inl (upd oo k 108))), (fa, .inl (cy 0, 60, .inl (upd fi k (zNu bx nn 2 (he + 1))))), (sa, .inl (cy 0, 60, .inl (upd se k (0))))] := by
  refine zM_of (cc := cX1_readCommand) (maxL := 2) (ret := (some .boolean)) (by decide) rfl (Nat.le_of_ble_eq_true rfl) ?_
  intro p e s m below meth c A Q hend hx hb hml hr hts hown hlk hG hK hP hD hA hS ls hl
  have hown : s.vm.findClass RX1 = some m.cls := hown
  have in_RX1 : ∀ w ∈ u_ws RX1 TX1 6, w ∈ wsX1_readCommand := by decide +kernel
  have hl : lv_has ls 2 [(0, .ref ic), (1, .int (nI k))] := hl
  have hlt : he < nn := zqs_lt hc (by decide)
  have hb0 : bx he = 108 := by have h9 := hc; rw [zqs, if_pos hlt] at h9; exact h9
  refine lv_aload_n hx hb dX1_readCommand_0 rfl (lv_at hl 0 rfl) ?_
  refine va_get (D := D) (ci := 5) (v := .int (nI he)) (C := RX1) (T := TX1) (N := 6) hx hb hts in_RX1 hown hK hP 0 rfl rfl 5 (by decide) (hts _ (List.mem_of_getElem? (i := 1) rfl)) (fun _ h9 => h9) rfl dX1_readCommand_1 ?_
  refine lv_aload_n hx hb dX1_readCommand_4 rfl (lv_at hl 0 rfl) ?_
  refine va_get (D := D) (ci := 5) (v := .ref o8) (C := RX1) (T := TX1) (N := 6) hx hb hts in_RX1 hown hK hP 0 rfl rfl 0 (by decide) (hts _ (List.mem_of_getElem? (i := 2) rfl)) (fun _ h9 => h9) rfl dX1_readCommand_5 ?_
  refine zcV (As := []) (rest := [.int (nI he)]) [1] 1 hg.1.1 ⟨hx, hb, hml, hown, hts⟩ (c_J4_length_8abf5 hg.1 l D cy o8 b8 ml nn) (cwV 0 hts gX1_readCommand_J4_length_8abf5 rfl rfl rfl (by decide +kernel) ⟨Nat.le_of_ble_eq_true rfl, Nat.le_of_ble_eq_true rfl⟩) hG hK hP hD hS hA rfl rfl rfl rfl rfl rfl hl.1 rfl (Nat.le_of_ble_eq_true rfl) dX1_readCommand_8 ⟨Nat.zero_le _, Nat.zero_le _⟩ (fun H locs hP hD hS => ?_)
  have hP : va_P D vwCl [(ic, .inr (5, [.ref o8, .ref oa, .ref fa, .ref sa, .int (nI kc), .int (nI he)])), (o8, .inr (1, [.ref b8, .int 0, .int ml, .int (nI nn)])), (b8, .inl (cy 1, mm, .inl bx)), (oa, .inl (cy 0, 60, .inl oo)), (fa, .inl (cy 0, 60, .inl fi)), (sa, .inl (cy 0, 60, .inl se))] H := hP
  have hD : va_D A [(ic, .inr (5, [.ref o8, .ref oa, .ref fa, .ref sa, .int (nI kc), .int (nI he)])), (o8, .inr (1, [.ref b8, .int 0, .int ml, .int (nI nn)])), (b8, .inl (cy 1, mm, .inl bx)), (oa, .inl (cy 0, 60, .inl oo)), (fa, .inl (cy 0, 60, .inl fi)), (sa, .inl (cy 0, 60, .inl se))] := hD
  refine lv_icmp_ge (tgt := 33) hx hb dX1_readCommand_11 (by decide) (fun c_1 => ?_) (fun c_1 => ?_)
  · exact absurd ((nI_leI (by omega) (by omega)).mp c_1) (Nat.not_le.mpr hlt)
  · refine va_ldcS hx hb hown (hgl A s hG).1 dX1_readCommand_14 ?_
    refine lv_aload_n hx hb dX1_readCommand_16 rfl (lv_at hl 0 rfl) ?_
    refine va_get (D := D) (ci := 5) (v := .ref o8) (C := RX1) (T := TX1) (N := 6) hx hb hts in_RX1 hown hK hP 0 rfl rfl 0 (by decide) (hts _ (List.mem_of_getElem? (i := 2) rfl)) (fun _ h9 => h9) rfl dX1_readCommand_17 ?_
    refine lv_aload_n hx hb dX1_readCommand_20 rfl (lv_at hl 0 rfl) ?_
    refine va_get (D := D) (ci := 5) (v := .int (nI he)) (C := RX1) (T := TX1) (N := 6) hx hb hts in_RX1 hown hK hP 0 rfl rfl 5 (by decide) (hts _ (List.mem_of_getElem? (i := 1) rfl)) (fun _ h9 => h9) rfl dX1_readCommand_21 ?_
    refine zcV (As := [.int (nI he)]) (rest := [.ref ak]) [1, 2] 1 hg.1.1 ⟨hx, hb, hml, hown, hts⟩ (c_J4_charAt_5068e hg l D cy o8 b8 ml nn bx mm he (by first | assumption | omega) (by first | assumption | omega) (by first | assumption | omega) (by first | assumption | omega)) (cwV 1 hts gX1_readCommand_J4_charAt_5068e rfl rfl rfl (by decide +kernel) ⟨Nat.le_of_ble_eq_true rfl, Nat.le_of_ble_eq_true rfl⟩) hG hK hP hD hS hA rfl rfl rfl rfl rfl rfl hl.1 rfl (Nat.le_of_ble_eq_true rfl) dX1_readCommand_24 ⟨Nat.zero_le _, Nat.zero_le _⟩ (fun H locs hP hD hS => ?_)
    have hP : va_P D vwCl [(ic, .inr (5, [.ref o8, .ref oa, .ref fa, .ref sa, .int (nI kc), .int (nI he)])), (o8, .inr (1, [.ref b8, .int 0, .int ml, .int (nI nn)])), (b8, .inl (cy 1, mm, .inl bx)), (oa, .inl (cy 0, 60, .inl oo)), (fa, .inl (cy 0, 60, .inl fi)), (sa, .inl (cy 0, 60, .inl se))] H := hP
    have hD : va_D A [(ic, .inr (5, [.ref o8, .ref oa, .ref fa, .ref sa, .int (nI kc), .int (nI he)])), (o8, .inr (1, [.ref b8, .int 0, .int ml, .int (nI nn)])), (b8, .inl (cy 1, mm, .inl bx)), (oa, .inl (cy 0, 60, .inl oo)), (fa, .inl (cy 0, 60, .inl fi)), (sa, .inl (cy 0, 60, .inl se))] := hD
    refine z_top (y := 108) (hb0) ?_
    refine zcVK (C := RJ0) (As := [.int 108]) (rest := []) [] hg.1.1 ⟨hx, hb, hml, hown, hts⟩ (c_J0_indexOf_0f7a4 hg l D cy ak av 108 (by first | assumption | omega) (by decide) (by decide) (by decide)) (cwV 1 hts gX1_readCommand_J0_indexOf_0f7a4 rfl rfl rfl (by decide +kernel) ⟨Nat.le_of_ble_eq_true rfl, Nat.le_of_ble_eq_true rfl⟩) (hgl A s hG).2.1 hG hK hP hD hS hA rfl rfl rfl  rfl hl.1 rfl (Nat.le_of_ble_eq_true rfl) dX1_readCommand_27 ⟨Nat.zero_le _, Nat.zero_le _⟩ (fun H locs hP hD hS => ?_)
    have hP : va_P D vwCl [(ic, .inr (5, [.ref o8, .ref oa, .ref fa, .ref sa, .int (nI kc), .int (nI he)])), (o8, .inr (1, [.ref b8, .int 0, .int ml, .int (nI nn)])), (b8, .inl (cy 1, mm, .inl bx)), (oa, .inl (cy 0, 60, .inl oo)), (fa, .inl (cy 0, 60, .inl fi)), (sa, .inl (cy 0, 60, .inl se))] H := hP
    have hD : va_D A [(ic, .inr (5, [.ref o8, .ref oa, .ref fa, .ref sa, .int (nI kc), .int (nI he)])), (o8, .inr (1, [.ref b8, .int 0, .int ml, .int (nI nn)])), (b8, .inl (cy 1, mm, .inl bx)), (oa, .inl (cy 0, 60, .inl oo)), (fa, .inl (cy 0, 60, .inl fi)), (sa, .inl (cy 0, 60, .inl se))] := hD
    refine z_top (y := 6) (by decide) ?_
    refine lv_if_ge (tgt := 35) hx hb dX1_readCommand_30 (by decide) (fun c_2 => ?_) (fun c_2 => ?_)
    · refine lv_aload_n hx hb dX1_readCommand_35 rfl (lv_at hl 0 rfl) ?_
      refine va_get (D := D) (ci := 5) (v := .ref oa) (C := RX1) (T := TX1) (N := 6) hx hb hts in_RX1 hown hK hP 0 rfl rfl 1 (by decide) (hts _ (List.mem_of_getElem? (i := 3) rfl)) (fun _ h9 => h9) rfl dX1_readCommand_36 ?_
      refine lv_iload_n hx hb dX1_readCommand_39 rfl (lv_at hl 1 rfl) ?_
      refine lv_aload_n hx hb dX1_readCommand_40 rfl (lv_at hl 0 rfl) ?_
      refine va_get (D := D) (ci := 5) (v := .ref o8) (C := RX1) (T := TX1) (N := 6) hx hb hts in_RX1 hown hK hP 0 rfl rfl 0 (by decide) (hts _ (List.mem_of_getElem? (i := 2) rfl)) (fun _ h9 => h9) rfl dX1_readCommand_41 ?_
      refine lv_aload_n hx hb dX1_readCommand_44 rfl (lv_at hl 0 rfl) ?_
      refine va_get (D := D) (ci := 5) (v := .int (nI he)) (C := RX1) (T := TX1) (N := 6) hx hb hts in_RX1 hown hK hP 0 rfl rfl 5 (by decide) (hts _ (List.mem_of_getElem? (i := 1) rfl)) (fun _ h9 => h9) rfl dX1_readCommand_45 ?_
      refine zcV (As := [.int (nI he)]) (rest := [.int (nI k), .ref oa]) [1, 2] 1 hg.1.1 ⟨hx, hb, hml, hown, hts⟩ (c_J4_charAt_5068e hg l D cy o8 b8 ml nn bx mm he (by first | assumption | omega) (by first | assumption | omega) (by first | assumption | omega) (by first | assumption | omega)) (cwV 1 hts gX1_readCommand_J4_charAt_5068e rfl rfl rfl (by decide +kernel) ⟨Nat.le_of_ble_eq_true rfl, Nat.le_of_ble_eq_true rfl⟩) hG hK hP hD hS hA rfl rfl rfl rfl rfl rfl hl.1 rfl (Nat.le_of_ble_eq_true rfl) dX1_readCommand_48 ⟨Nat.zero_le _, Nat.zero_le _⟩ (fun H locs hP hD hS => ?_)
      have hP : va_P D vwCl [(ic, .inr (5, [.ref o8, .ref oa, .ref fa, .ref sa, .int (nI kc), .int (nI he)])), (o8, .inr (1, [.ref b8, .int 0, .int ml, .int (nI nn)])), (b8, .inl (cy 1, mm, .inl bx)), (oa, .inl (cy 0, 60, .inl oo)), (fa, .inl (cy 0, 60, .inl fi)), (sa, .inl (cy 0, 60, .inl se))] H := hP
      have hD : va_D A [(ic, .inr (5, [.ref o8, .ref oa, .ref fa, .ref sa, .int (nI kc), .int (nI he)])), (o8, .inr (1, [.ref b8, .int 0, .int ml, .int (nI nn)])), (b8, .inl (cy 1, mm, .inl bx)), (oa, .inl (cy 0, 60, .inl oo)), (fa, .inl (cy 0, 60, .inl fi)), (sa, .inl (cy 0, 60, .inl se))] := hD
      refine z_top (y := 108) (hb0) ?_
      refine ziast 3 0 k hx hb hK hP hD hS rfl rfl (by omega) (z_lt rfl) dX1_readCommand_51 (fun H locs hP hD hS => ?_)
      have hP : va_P D vwCl [(ic, .inr (5, [.ref o8, .ref oa, .ref fa, .ref sa, .int (nI kc), .int (nI he)])), (o8, .inr (1, [.ref b8, .int 0, .int ml, .int (nI nn)])), (b8, .inl (cy 1, mm, .inl bx)), (oa, .inl (cy 0, 60, .inl (upd oo k 108))), (fa, .inl (cy 0, 60, .inl fi)), (sa, .inl (cy 0, 60, .inl se))] H := hP
      have hD : va_D A [(ic, .inr (5, [.ref o8, .ref oa, .ref fa, .ref sa, .int (nI kc), .int (nI he)])), (o8, .inr (1, [.ref b8, .int 0, .int ml, .int (nI nn)])), (b8, .inl (cy 1, mm, .inl bx)), (oa, .inl (cy 0, 60, .inl (upd oo k 108))), (fa, .inl (cy 0, 60, .inl fi)), (sa, .inl (cy 0, 60, .inl se))] := hD
      refine lv_aload_n hx hb dX1_readCommand_52 rfl (lv_at hl 0 rfl) ?_
      refine va_get (D := D) (ci := 5) (v := .ref fa) (C := RX1) (T := TX1) (N := 6) hx hb hts in_RX1 hown hK hP 0 rfl rfl 2 (by decide) (hts _ (List.mem_of_getElem? (i := 4) rfl)) (fun _ h9 => h9) rfl dX1_readCommand_53 ?_
      refine lv_iload_n hx hb dX1_readCommand_56 rfl (lv_at hl 1 rfl) ?_
      refine lv_iconst (v := 0) hx hb dX1_readCommand_57 (by decide) ?_
      refine ziast 4 0 k hx hb hK hP hD hS rfl rfl (by omega) (z_lt rfl) dX1_readCommand_58 (fun H locs hP hD hS => ?_)
      have hP : va_P D vwCl [(ic, .inr (5, [.ref o8, .ref oa, .ref fa, .ref sa, .int (nI kc), .int (nI he)])), (o8, .inr (1, [.ref b8, .int 0, .int ml, .int (nI nn)])), (b8, .inl (cy 1, mm, .inl bx)), (oa, .inl (cy 0, 60, .inl (upd oo k 108))), (fa, .inl (cy 0, 60, .inl (upd fi k 0))), (sa, .inl (cy 0, 60, .inl se))] H := hP
      have hD : va_D A [(ic, .inr (5, [.ref o8, .ref oa, .ref fa, .ref sa, .int (nI kc), .int (nI he)])), (o8, .inr (1, [.ref b8, .int 0, .int ml, .int (nI nn)])), (b8, .inl (cy 1, mm, .inl bx)), (oa, .inl (cy 0, 60, .inl (upd oo k 108))), (fa, .inl (cy 0, 60, .inl (upd fi k 0))), (sa, .inl (cy 0, 60, .inl se))] := hD
      refine lv_aload_n hx hb dX1_readCommand_59 rfl (lv_at hl 0 rfl) ?_
      refine va_get (D := D) (ci := 5) (v := .ref sa) (C := RX1) (T := TX1) (N := 6) hx hb hts in_RX1 hown hK hP 0 rfl rfl 3 (by decide) (hts _ (List.mem_of_getElem? (i := 5) rfl)) (fun _ h9 => h9) rfl dX1_readCommand_60 ?_
      refine lv_iload_n hx hb dX1_readCommand_63 rfl (lv_at hl 1 rfl) ?_
      refine lv_iconst (v := 0) hx hb dX1_readCommand_64 (by decide) ?_
      refine ziast 5 0 k hx hb hK hP hD hS rfl rfl (by omega) (z_lt rfl) dX1_readCommand_65 (fun H locs hP hD hS => ?_)
      have hP : va_P D vwCl [(ic, .inr (5, [.ref o8, .ref oa, .ref fa, .ref sa, .int (nI kc), .int (nI he)])), (o8, .inr (1, [.ref b8, .int 0, .int ml, .int (nI nn)])), (b8, .inl (cy 1, mm, .inl bx)), (oa, .inl (cy 0, 60, .inl (upd oo k 108))), (fa, .inl (cy 0, 60, .inl (upd fi k 0))), (sa, .inl (cy 0, 60, .inl (upd se k 0)))] H := hP
      have hD : va_D A [(ic, .inr (5, [.ref o8, .ref oa, .ref fa, .ref sa, .int (nI kc), .int (nI he)])), (o8, .inr (1, [.ref b8, .int 0, .int ml, .int (nI nn)])), (b8, .inl (cy 1, mm, .inl bx)), (oa, .inl (cy 0, 60, .inl (upd oo k 108))), (fa, .inl (cy 0, 60, .inl (upd fi k 0))), (sa, .inl (cy 0, 60, .inl (upd se k 0)))] := hD
      refine lv_aload_n hx hb dX1_readCommand_66 rfl (lv_at hl 0 rfl) ?_
      refine lv_dup hx hb dX1_readCommand_67 rfl ?_
      refine va_get (D := D) (ci := 5) (v := .int (nI he)) (C := RX1) (T := TX1) (N := 6) hx hb hts in_RX1 hown hK hP 0 rfl rfl 5 (by decide) (hts _ (List.mem_of_getElem? (i := 1) rfl)) (fun _ h9 => h9) rfl dX1_readCommand_68 ?_
      refine lv_iconst (v := 1) hx hb dX1_readCommand_71 (by decide) ?_
      refine lv_iadd hx hb dX1_readCommand_72 ?_
      refine z_top (y := nI (he + 1)) (nI_add he 1) ?_
      refine va_put (D := D) (ci := 5) (v := .int (nI (he + 1))) (ty := .int) (C := RX1) (T := TX1) (N := 6) hx hb hts in_RX1 tyX1 tyX1_ok nmX1 hown hK hP hD hS 0 rfl rfl 5 (by decide) (hts _ (List.mem_of_getElem? (i := 1) rfl)) (fun _ h9 => h9) rfl (by decide +kernel) rfl rfl (Nat.le_of_ble_eq_true rfl) dX1_readCommand_73 (fun H locs hP hD hS => ?_)
      have hP : va_P D vwCl [(ic, .inr (5, [.ref o8, .ref oa, .ref fa, .ref sa, .int (nI kc), .int (nI (he + 1))])), (o8, .inr (1, [.ref b8, .int 0, .int ml, .int (nI nn)])), (b8, .inl (cy 1, mm, .inl bx)), (oa, .inl (cy 0, 60, .inl (upd oo k 108))), (fa, .inl (cy 0, 60, .inl (upd fi k 0))), (sa, .inl (cy 0, 60, .inl (upd se k 0)))] H := hP
      have hD : va_D A [(ic, .inr (5, [.ref o8, .ref oa, .ref fa, .ref sa, .int (nI kc), .int (nI (he + 1))])), (o8, .inr (1, [.ref b8, .int 0, .int ml, .int (nI nn)])), (b8, .inl (cy 1, mm, .inl bx)), (oa, .inl (cy 0, 60, .inl (upd oo k 108))), (fa, .inl (cy 0, 60, .inl (upd fi k 0))), (sa, .inl (cy 0, 60, .inl (upd se k 0)))] := hD
      refine lv_aload_n hx hb dX1_readCommand_76 rfl (lv_at hl 0 rfl) ?_
      refine va_get (D := D) (ci := 5) (v := .ref oa) (C := RX1) (T := TX1) (N := 6) hx hb hts in_RX1 hown hK hP 0 rfl rfl 1 (by decide) (hts _ (List.mem_of_getElem? (i := 3) rfl)) (fun _ h9 => h9) rfl dX1_readCommand_77 ?_
      refine lv_iload_n hx hb dX1_readCommand_80 rfl (lv_at hl 1 rfl) ?_
      refine ziald 3 0 k hx hb hK hP rfl rfl (by omega) (z_lt rfl) dX1_readCommand_81 ?_
      refine z_top (y := 108) (upd_s) ?_
      refine lv_tableIn (off := 187) (tgt := 269) hx hb dX1_readCommand_82 (by decide) (by decide) (by decide) (by decide) ?_
      refine lv_aload_n hx hb dX1_readCommand_269 rfl (lv_at hl 0 rfl) ?_
      refine lv_iload_n hx hb dX1_readCommand_270 rfl (lv_at hl 1 rfl) ?_
      refine lv_iconst (v := 2) hx hb dX1_readCommand_271 (by decide) ?_
      refine z_top (y := nI 2) (rfl) ?_
      refine zcV (As := [.int (nI k), .int (nI 2)]) (rest := []) [0, 1, 2, 4] 0 hg.1.1 ⟨hx, hb, hml, hown, hts⟩ (c_X1_readFirst hg l D cy ic oa fa sa kc (he + 1) o8 b8 ml nn bx mm 2 k (upd fi k 0) (by first | assumption | decide | omega) (by first | assumption | decide | omega) (by first | assumption | decide | omega) (by first | assumption | decide | omega) (by first | assumption | decide | omega) (by first | assumption | decide | omega) (by first | assumption | decide | omega) (by first | assumption | decide | omega)) (cwV 2 hts gX1_readCommand_X1_readFirst rfl rfl rfl (by decide +kernel) ⟨Nat.le_of_ble_eq_true rfl, Nat.le_of_ble_eq_true rfl⟩) hG hK hP hD hS hA rfl rfl (Eq.trans (b := [ic, o8, b8, fa]) rfl rfl) rfl rfl rfl hl.1 rfl (Nat.le_of_ble_eq_true rfl) dX1_readCommand_272 ⟨Nat.zero_le _, Nat.zero_le _⟩ (fun H locs hP hD hS => ?_)
      have hP : va_P D vwCl [(ic, .inr (5, [.ref o8, .ref oa, .ref fa, .ref sa, .int (nI kc), .int (nI ((he + 1) + zdN bx nn 2 (he + 1)))])), (o8, .inr (1, [.ref b8, .int 0, .int ml, .int (nI nn)])), (b8, .inl (cy 1, mm, .inl bx)), (oa, .inl (cy 0, 60, .inl (upd oo k 108))), (fa, .inl (cy 0, 60, .inl (upd (upd fi k 0) k (zNu bx nn 2 (he + 1))))), (sa, .inl (cy 0, 60, .inl (upd se k 0)))] H := hP
      have hD : va_D A [(ic, .inr (5, [.ref o8, .ref oa, .ref fa, .ref sa, .int (nI kc), .int (nI ((he + 1) + zdN bx nn 2 (he + 1)))])), (o8, .inr (1, [.ref b8, .int 0, .int ml, .int (nI nn)])), (b8, .inl (cy 1, mm, .inl bx)), (oa, .inl (cy 0, 60, .inl (upd oo k 108))), (fa, .inl (cy 0, 60, .inl (upd (upd fi k 0) k (zNu bx nn 2 (he + 1))))), (sa, .inl (cy 0, 60, .inl (upd se k 0)))] := hD
      exact zzret hend hx hb hr hlk hK hP hD hS dX1_readCommand_275 (zI_nar _) (by rfl) (by simp only [upd_u])
    · exact absurd c_2 (by decide)

abbrev rmX1_readCommand_r103 : Room := { frames := 7, cells := 0, slots := 0, locals := 156 }
set_option maxHeartbeats 4000000 in
set_option maxRecDepth 100000 in
theorem c_X1_readCommand_r103 {G : zG} (hg : zGJ G) (l : Launch) (D : va_G) (cy : Nat → ClassId) (ic : Nat) (oa : Nat) (fa : Nat) (sa : Nat) (kc : Nat) (he : Nat) (o8 : Nat) (b8 : Nat) (ml : Int32) (nn : Nat) (bx : Nat → Int32) (mm : Nat) (ak : Nat) (av : Nat) (oo : Nat → Int32) (fi : Nat → Int32) (se : Nat → Int32) (k : Nat) (hhe : he ≤ 200) (hnm : nn ≤ mm) (hmm : mm ≤ 100) (hch : ∀ j, j < nn → zch (bx j)) (hgl : ∀ (A : Nat → Prop) (U : State), G A U → zLit ak av A U) (hk : k < 60) (hhe6 : he ≤ 60) (hc : zqs bx nn he = 103) : zM G D vwCl (zT cy) l yX1_readCommand wsX1_readCommand rmX1_readCommand_r103 [.ref ic, .int (nI k)] [(ic, .inr (5, [.ref o8, .ref oa, .ref fa, .ref sa, .int (nI kc), .int (nI he)])), (o8, .inr (1, [.ref b8, .int 0, .int ml, .int (nI nn)])), (b8, .inl (cy 1, mm, .inl bx)), (oa, .inl (cy 0, 60, .inl oo)), (fa, .inl (cy 0, 60, .inl fi)), (sa, .inl (cy 0, 60, .inl se))] (some (.int (zI (!(decide (zdN bx nn 2 (he + 1) = 0)))))) [(ic, .inr (5, [.ref o8, .ref oa, .ref fa, .ref sa, .int (nI kc), .int (nI ((he + 1) + zdN bx nn 2 (he + 1)))])), (o8, .inr (1, [.ref b8, .int 0, .int ml, .int (nI nn)])), (b8, .inl (cy 1, mm, .inl bx)), (oa, .inl (cy 0, 60, .inl (upd oo k 103))), (fa, .inl (cy 0, 60, .inl (upd fi k (zNu bx nn 2 (he + 1))))), (sa, .inl (cy 0, 60, .inl (upd se k (0))))] := by
  refine zM_of (cc := cX1_readCommand) (maxL := 2) (ret := (some .boolean)) (by decide) rfl (Nat.le_of_ble_eq_true rfl) ?_
  intro p e s m below meth c A Q hend hx hb hml hr hts hown hlk hG hK hP hD hA hS ls hl
  have hown : s.vm.findClass RX1 = some m.cls := hown
  have in_RX1 : ∀ w ∈ u_ws RX1 TX1 6, w ∈ wsX1_readCommand := by decide +kernel
  have hl : lv_has ls 2 [(0, .ref ic), (1, .int (nI k))] := hl
  have hlt : he < nn := zqs_lt hc (by decide)
  have hb0 : bx he = 103 := by have h9 := hc; rw [zqs, if_pos hlt] at h9; exact h9
  refine lv_aload_n hx hb dX1_readCommand_0 rfl (lv_at hl 0 rfl) ?_
  refine va_get (D := D) (ci := 5) (v := .int (nI he)) (C := RX1) (T := TX1) (N := 6) hx hb hts in_RX1 hown hK hP 0 rfl rfl 5 (by decide) (hts _ (List.mem_of_getElem? (i := 1) rfl)) (fun _ h9 => h9) rfl dX1_readCommand_1 ?_
  refine lv_aload_n hx hb dX1_readCommand_4 rfl (lv_at hl 0 rfl) ?_
  refine va_get (D := D) (ci := 5) (v := .ref o8) (C := RX1) (T := TX1) (N := 6) hx hb hts in_RX1 hown hK hP 0 rfl rfl 0 (by decide) (hts _ (List.mem_of_getElem? (i := 2) rfl)) (fun _ h9 => h9) rfl dX1_readCommand_5 ?_
  refine zcV (As := []) (rest := [.int (nI he)]) [1] 1 hg.1.1 ⟨hx, hb, hml, hown, hts⟩ (c_J4_length_8abf5 hg.1 l D cy o8 b8 ml nn) (cwV 0 hts gX1_readCommand_J4_length_8abf5 rfl rfl rfl (by decide +kernel) ⟨Nat.le_of_ble_eq_true rfl, Nat.le_of_ble_eq_true rfl⟩) hG hK hP hD hS hA rfl rfl rfl rfl rfl rfl hl.1 rfl (Nat.le_of_ble_eq_true rfl) dX1_readCommand_8 ⟨Nat.zero_le _, Nat.zero_le _⟩ (fun H locs hP hD hS => ?_)
  have hP : va_P D vwCl [(ic, .inr (5, [.ref o8, .ref oa, .ref fa, .ref sa, .int (nI kc), .int (nI he)])), (o8, .inr (1, [.ref b8, .int 0, .int ml, .int (nI nn)])), (b8, .inl (cy 1, mm, .inl bx)), (oa, .inl (cy 0, 60, .inl oo)), (fa, .inl (cy 0, 60, .inl fi)), (sa, .inl (cy 0, 60, .inl se))] H := hP
  have hD : va_D A [(ic, .inr (5, [.ref o8, .ref oa, .ref fa, .ref sa, .int (nI kc), .int (nI he)])), (o8, .inr (1, [.ref b8, .int 0, .int ml, .int (nI nn)])), (b8, .inl (cy 1, mm, .inl bx)), (oa, .inl (cy 0, 60, .inl oo)), (fa, .inl (cy 0, 60, .inl fi)), (sa, .inl (cy 0, 60, .inl se))] := hD
  refine lv_icmp_ge (tgt := 33) hx hb dX1_readCommand_11 (by decide) (fun c_1 => ?_) (fun c_1 => ?_)
  · exact absurd ((nI_leI (by omega) (by omega)).mp c_1) (Nat.not_le.mpr hlt)
  · refine va_ldcS hx hb hown (hgl A s hG).1 dX1_readCommand_14 ?_
    refine lv_aload_n hx hb dX1_readCommand_16 rfl (lv_at hl 0 rfl) ?_
    refine va_get (D := D) (ci := 5) (v := .ref o8) (C := RX1) (T := TX1) (N := 6) hx hb hts in_RX1 hown hK hP 0 rfl rfl 0 (by decide) (hts _ (List.mem_of_getElem? (i := 2) rfl)) (fun _ h9 => h9) rfl dX1_readCommand_17 ?_
    refine lv_aload_n hx hb dX1_readCommand_20 rfl (lv_at hl 0 rfl) ?_
    refine va_get (D := D) (ci := 5) (v := .int (nI he)) (C := RX1) (T := TX1) (N := 6) hx hb hts in_RX1 hown hK hP 0 rfl rfl 5 (by decide) (hts _ (List.mem_of_getElem? (i := 1) rfl)) (fun _ h9 => h9) rfl dX1_readCommand_21 ?_
    refine zcV (As := [.int (nI he)]) (rest := [.ref ak]) [1, 2] 1 hg.1.1 ⟨hx, hb, hml, hown, hts⟩ (c_J4_charAt_5068e hg l D cy o8 b8 ml nn bx mm he (by first | assumption | omega) (by first | assumption | omega) (by first | assumption | omega) (by first | assumption | omega)) (cwV 1 hts gX1_readCommand_J4_charAt_5068e rfl rfl rfl (by decide +kernel) ⟨Nat.le_of_ble_eq_true rfl, Nat.le_of_ble_eq_true rfl⟩) hG hK hP hD hS hA rfl rfl rfl rfl rfl rfl hl.1 rfl (Nat.le_of_ble_eq_true rfl) dX1_readCommand_24 ⟨Nat.zero_le _, Nat.zero_le _⟩ (fun H locs hP hD hS => ?_)
    have hP : va_P D vwCl [(ic, .inr (5, [.ref o8, .ref oa, .ref fa, .ref sa, .int (nI kc), .int (nI he)])), (o8, .inr (1, [.ref b8, .int 0, .int ml, .int (nI nn)])), (b8, .inl (cy 1, mm, .inl bx)), (oa, .inl (cy 0, 60, .inl oo)), (fa, .inl (cy 0, 60, .inl fi)), (sa, .inl (cy 0, 60, .inl se))] H := hP
    have hD : va_D A [(ic, .inr (5, [.ref o8, .ref oa, .ref fa, .ref sa, .int (nI kc), .int (nI he)])), (o8, .inr (1, [.ref b8, .int 0, .int ml, .int (nI nn)])), (b8, .inl (cy 1, mm, .inl bx)), (oa, .inl (cy 0, 60, .inl oo)), (fa, .inl (cy 0, 60, .inl fi)), (sa, .inl (cy 0, 60, .inl se))] := hD
    refine z_top (y := 103) (hb0) ?_
    refine zcVK (C := RJ0) (As := [.int 103]) (rest := []) [] hg.1.1 ⟨hx, hb, hml, hown, hts⟩ (c_J0_indexOf_0f7a4 hg l D cy ak av 103 (by first | assumption | omega) (by decide) (by decide) (by decide)) (cwV 1 hts gX1_readCommand_J0_indexOf_0f7a4 rfl rfl rfl (by decide +kernel) ⟨Nat.le_of_ble_eq_true rfl, Nat.le_of_ble_eq_true rfl⟩) (hgl A s hG).2.1 hG hK hP hD hS hA rfl rfl rfl  rfl hl.1 rfl (Nat.le_of_ble_eq_true rfl) dX1_readCommand_27 ⟨Nat.zero_le _, Nat.zero_le _⟩ (fun H locs hP hD hS => ?_)
    have hP : va_P D vwCl [(ic, .inr (5, [.ref o8, .ref oa, .ref fa, .ref sa, .int (nI kc), .int (nI he)])), (o8, .inr (1, [.ref b8, .int 0, .int ml, .int (nI nn)])), (b8, .inl (cy 1, mm, .inl bx)), (oa, .inl (cy 0, 60, .inl oo)), (fa, .inl (cy 0, 60, .inl fi)), (sa, .inl (cy 0, 60, .inl se))] H := hP
    have hD : va_D A [(ic, .inr (5, [.ref o8, .ref oa, .ref fa, .ref sa, .int (nI kc), .int (nI he)])), (o8, .inr (1, [.ref b8, .int 0, .int ml, .int (nI nn)])), (b8, .inl (cy 1, mm, .inl bx)), (oa, .inl (cy 0, 60, .inl oo)), (fa, .inl (cy 0, 60, .inl fi)), (sa, .inl (cy 0, 60, .inl se))] := hD
    refine z_top (y := 7) (by decide) ?_
    refine lv_if_ge (tgt := 35) hx hb dX1_readCommand_30 (by decide) (fun c_2 => ?_) (fun c_2 => ?_)
    · refine lv_aload_n hx hb dX1_readCommand_35 rfl (lv_at hl 0 rfl) ?_
      refine va_get (D := D) (ci := 5) (v := .ref oa) (C := RX1) (T := TX1) (N := 6) hx hb hts in_RX1 hown hK hP 0 rfl rfl 1 (by decide) (hts _ (List.mem_of_getElem? (i := 3) rfl)) (fun _ h9 => h9) rfl dX1_readCommand_36 ?_
      refine lv_iload_n hx hb dX1_readCommand_39 rfl (lv_at hl 1 rfl) ?_
      refine lv_aload_n hx hb dX1_readCommand_40 rfl (lv_at hl 0 rfl) ?_
      refine va_get (D := D) (ci := 5) (v := .ref o8) (C := RX1) (T := TX1) (N := 6) hx hb hts in_RX1 hown hK hP 0 rfl rfl 0 (by decide) (hts _ (List.mem_of_getElem? (i := 2) rfl)) (fun _ h9 => h9) rfl dX1_readCommand_41 ?_
      refine lv_aload_n hx hb dX1_readCommand_44 rfl (lv_at hl 0 rfl) ?_
      refine va_get (D := D) (ci := 5) (v := .int (nI he)) (C := RX1) (T := TX1) (N := 6) hx hb hts in_RX1 hown hK hP 0 rfl rfl 5 (by decide) (hts _ (List.mem_of_getElem? (i := 1) rfl)) (fun _ h9 => h9) rfl dX1_readCommand_45 ?_
      refine zcV (As := [.int (nI he)]) (rest := [.int (nI k), .ref oa]) [1, 2] 1 hg.1.1 ⟨hx, hb, hml, hown, hts⟩ (c_J4_charAt_5068e hg l D cy o8 b8 ml nn bx mm he (by first | assumption | omega) (by first | assumption | omega) (by first | assumption | omega) (by first | assumption | omega)) (cwV 1 hts gX1_readCommand_J4_charAt_5068e rfl rfl rfl (by decide +kernel) ⟨Nat.le_of_ble_eq_true rfl, Nat.le_of_ble_eq_true rfl⟩) hG hK hP hD hS hA rfl rfl rfl rfl rfl rfl hl.1 rfl (Nat.le_of_ble_eq_true rfl) dX1_readCommand_48 ⟨Nat.zero_le _, Nat.zero_le _⟩ (fun H locs hP hD hS => ?_)
      have hP : va_P D vwCl [(ic, .inr (5, [.ref o8, .ref oa, .ref fa, .ref sa, .int (nI kc), .int (nI he)])), (o8, .inr (1, [.ref b8, .int 0, .int ml, .int (nI nn)])), (b8, .inl (cy 1, mm, .inl bx)), (oa, .inl (cy 0, 60, .inl oo)), (fa, .inl (cy 0, 60, .inl fi)), (sa, .inl (cy 0, 60, .inl se))] H := hP
      have hD : va_D A [(ic, .inr (5, [.ref o8, .ref oa, .ref fa, .ref sa, .int (nI kc), .int (nI he)])), (o8, .inr (1, [.ref b8, .int 0, .int ml, .int (nI nn)])), (b8, .inl (cy 1, mm, .inl bx)), (oa, .inl (cy 0, 60, .inl oo)), (fa, .inl (cy 0, 60, .inl fi)), (sa, .inl (cy 0, 60, .inl se))] := hD
      refine z_top (y := 103) (hb0) ?_
      refine ziast 3 0 k hx hb hK hP hD hS rfl rfl (by omega) (z_lt rfl) dX1_readCommand_51 (fun H locs hP hD hS => ?_)
      have hP : va_P D vwCl [(ic, .inr (5, [.ref o8, .ref oa, .ref fa, .ref sa, .int (nI kc), .int (nI he)])), (o8, .inr (1, [.ref b8, .int 0, .int ml, .int (nI nn)])), (b8, .inl (cy 1, mm, .inl bx)), (oa, .inl (cy 0, 60, .inl (upd oo k 103))), (fa, .inl (cy 0, 60, .inl fi)), (sa, .inl (cy 0, 60, .inl se))] H := hP
      have hD : va_D A [(ic, .inr (5, [.ref o8, .ref oa, .ref fa, .ref sa, .int (nI kc), .int (nI he)])), (o8, .inr (1, [.ref b8, .int 0, .int ml, .int (nI nn)])), (b8, .inl (cy 1, mm, .inl bx)), (oa, .inl (cy 0, 60, .inl (upd oo k 103))), (fa, .inl (cy 0, 60, .inl fi)), (sa, .inl (cy 0, 60, .inl se))] := hD
      refine lv_aload_n hx hb dX1_readCommand_52 rfl (lv_at hl 0 rfl) ?_
      refine va_get (D := D) (ci := 5) (v := .ref fa) (C := RX1) (T := TX1) (N := 6) hx hb hts in_RX1 hown hK hP 0 rfl rfl 2 (by decide) (hts _ (List.mem_of_getElem? (i := 4) rfl)) (fun _ h9 => h9) rfl dX1_readCommand_53 ?_
      refine lv_iload_n hx hb dX1_readCommand_56 rfl (lv_at hl 1 rfl) ?_
      refine lv_iconst (v := 0) hx hb dX1_readCommand_57 (by decide) ?_
      refine ziast 4 0 k hx hb hK hP hD hS rfl rfl (by omega) (z_lt rfl) dX1_readCommand_58 (fun H locs hP hD hS => ?_)
      have hP : va_P D vwCl [(ic, .inr (5, [.ref o8, .ref oa, .ref fa, .ref sa, .int (nI kc), .int (nI he)])), (o8, .inr (1, [.ref b8, .int 0, .int ml, .int (nI nn)])), (b8, .inl (cy 1, mm, .inl bx)), (oa, .inl (cy 0, 60, .inl (upd oo k 103))), (fa, .inl (cy 0, 60, .inl (upd fi k 0))), (sa, .inl (cy 0, 60, .inl se))] H := hP
      have hD : va_D A [(ic, .inr (5, [.ref o8, .ref oa, .ref fa, .ref sa, .int (nI kc), .int (nI he)])), (o8, .inr (1, [.ref b8, .int 0, .int ml, .int (nI nn)])), (b8, .inl (cy 1, mm, .inl bx)), (oa, .inl (cy 0, 60, .inl (upd oo k 103))), (fa, .inl (cy 0, 60, .inl (upd fi k 0))), (sa, .inl (cy 0, 60, .inl se))] := hD
      refine lv_aload_n hx hb dX1_readCommand_59 rfl (lv_at hl 0 rfl) ?_
      refine va_get (D := D) (ci := 5) (v := .ref sa) (C := RX1) (T := TX1) (N := 6) hx hb hts in_RX1 hown hK hP 0 rfl rfl 3 (by decide) (hts _ (List.mem_of_getElem? (i := 5) rfl)) (fun _ h9 => h9) rfl dX1_readCommand_60 ?_
      refine lv_iload_n hx hb dX1_readCommand_63 rfl (lv_at hl 1 rfl) ?_
      refine lv_iconst (v := 0) hx hb dX1_readCommand_64 (by decide) ?_
      refine ziast 5 0 k hx hb hK hP hD hS rfl rfl (by omega) (z_lt rfl) dX1_readCommand_65 (fun H locs hP hD hS => ?_)
      have hP : va_P D vwCl [(ic, .inr (5, [.ref o8, .ref oa, .ref fa, .ref sa, .int (nI kc), .int (nI he)])), (o8, .inr (1, [.ref b8, .int 0, .int ml, .int (nI nn)])), (b8, .inl (cy 1, mm, .inl bx)), (oa, .inl (cy 0, 60, .inl (upd oo k 103))), (fa, .inl (cy 0, 60, .inl (upd fi k 0))), (sa, .inl (cy 0, 60, .inl (upd se k 0)))] H := hP
      have hD : va_D A [(ic, .inr (5, [.ref o8, .ref oa, .ref fa, .ref sa, .int (nI kc), .int (nI he)])), (o8, .inr (1, [.ref b8, .int 0, .int ml, .int (nI nn)])), (b8, .inl (cy 1, mm, .inl bx)), (oa, .inl (cy 0, 60, .inl (upd oo k 103))), (fa, .inl (cy 0, 60, .inl (upd fi k 0))), (sa, .inl (cy 0, 60, .inl (upd se k 0)))] := hD
      refine lv_aload_n hx hb dX1_readCommand_66 rfl (lv_at hl 0 rfl) ?_
      refine lv_dup hx hb dX1_readCommand_67 rfl ?_
      refine va_get (D := D) (ci := 5) (v := .int (nI he)) (C := RX1) (T := TX1) (N := 6) hx hb hts in_RX1 hown hK hP 0 rfl rfl 5 (by decide) (hts _ (List.mem_of_getElem? (i := 1) rfl)) (fun _ h9 => h9) rfl dX1_readCommand_68 ?_
      refine lv_iconst (v := 1) hx hb dX1_readCommand_71 (by decide) ?_
      refine lv_iadd hx hb dX1_readCommand_72 ?_
      refine z_top (y := nI (he + 1)) (nI_add he 1) ?_
      refine va_put (D := D) (ci := 5) (v := .int (nI (he + 1))) (ty := .int) (C := RX1) (T := TX1) (N := 6) hx hb hts in_RX1 tyX1 tyX1_ok nmX1 hown hK hP hD hS 0 rfl rfl 5 (by decide) (hts _ (List.mem_of_getElem? (i := 1) rfl)) (fun _ h9 => h9) rfl (by decide +kernel) rfl rfl (Nat.le_of_ble_eq_true rfl) dX1_readCommand_73 (fun H locs hP hD hS => ?_)
      have hP : va_P D vwCl [(ic, .inr (5, [.ref o8, .ref oa, .ref fa, .ref sa, .int (nI kc), .int (nI (he + 1))])), (o8, .inr (1, [.ref b8, .int 0, .int ml, .int (nI nn)])), (b8, .inl (cy 1, mm, .inl bx)), (oa, .inl (cy 0, 60, .inl (upd oo k 103))), (fa, .inl (cy 0, 60, .inl (upd fi k 0))), (sa, .inl (cy 0, 60, .inl (upd se k 0)))] H := hP
      have hD : va_D A [(ic, .inr (5, [.ref o8, .ref oa, .ref fa, .ref sa, .int (nI kc), .int (nI (he + 1))])), (o8, .inr (1, [.ref b8, .int 0, .int ml, .int (nI nn)])), (b8, .inl (cy 1, mm, .inl bx)), (oa, .inl (cy 0, 60, .inl (upd oo k 103))), (fa, .inl (cy 0, 60, .inl (upd fi k 0))), (sa, .inl (cy 0, 60, .inl (upd se k 0)))] := hD
      refine lv_aload_n hx hb dX1_readCommand_76 rfl (lv_at hl 0 rfl) ?_
      refine va_get (D := D) (ci := 5) (v := .ref oa) (C := RX1) (T := TX1) (N := 6) hx hb hts in_RX1 hown hK hP 0 rfl rfl 1 (by decide) (hts _ (List.mem_of_getElem? (i := 3) rfl)) (fun _ h9 => h9) rfl dX1_readCommand_77 ?_
      refine lv_iload_n hx hb dX1_readCommand_80 rfl (lv_at hl 1 rfl) ?_
      refine ziald 3 0 k hx hb hK hP rfl rfl (by omega) (z_lt rfl) dX1_readCommand_81 ?_
      refine z_top (y := 103) (upd_s) ?_
      refine lv_tableIn (off := 187) (tgt := 269) hx hb dX1_readCommand_82 (by decide) (by decide) (by decide) (by decide) ?_
      refine lv_aload_n hx hb dX1_readCommand_269 rfl (lv_at hl 0 rfl) ?_
      refine lv_iload_n hx hb dX1_readCommand_270 rfl (lv_at hl 1 rfl) ?_
      refine lv_iconst (v := 2) hx hb dX1_readCommand_271 (by decide) ?_
      refine z_top (y := nI 2) (rfl) ?_
      refine zcV (As := [.int (nI k), .int (nI 2)]) (rest := []) [0, 1, 2, 4] 0 hg.1.1 ⟨hx, hb, hml, hown, hts⟩ (c_X1_readFirst hg l D cy ic oa fa sa kc (he + 1) o8 b8 ml nn bx mm 2 k (upd fi k 0) (by first | assumption | decide | omega) (by first | assumption | decide | omega) (by first | assumption | decide | omega) (by first | assumption | decide | omega) (by first | assumption | decide | omega) (by first | assumption | decide | omega) (by first | assumption | decide | omega) (by first | assumption | decide | omega)) (cwV 2 hts gX1_readCommand_X1_readFirst rfl rfl rfl (by decide +kernel) ⟨Nat.le_of_ble_eq_true rfl, Nat.le_of_ble_eq_true rfl⟩) hG hK hP hD hS hA rfl rfl (Eq.trans (b := [ic, o8, b8, fa]) rfl rfl) rfl rfl rfl hl.1 rfl (Nat.le_of_ble_eq_true rfl) dX1_readCommand_272 ⟨Nat.zero_le _, Nat.zero_le _⟩ (fun H locs hP hD hS => ?_)
      have hP : va_P D vwCl [(ic, .inr (5, [.ref o8, .ref oa, .ref fa, .ref sa, .int (nI kc), .int (nI ((he + 1) + zdN bx nn 2 (he + 1)))])), (o8, .inr (1, [.ref b8, .int 0, .int ml, .int (nI nn)])), (b8, .inl (cy 1, mm, .inl bx)), (oa, .inl (cy 0, 60, .inl (upd oo k 103))), (fa, .inl (cy 0, 60, .inl (upd (upd fi k 0) k (zNu bx nn 2 (he + 1))))), (sa, .inl (cy 0, 60, .inl (upd se k 0)))] H := hP
      have hD : va_D A [(ic, .inr (5, [.ref o8, .ref oa, .ref fa, .ref sa, .int (nI kc), .int (nI ((he + 1) + zdN bx nn 2 (he + 1)))])), (o8, .inr (1, [.ref b8, .int 0, .int ml, .int (nI nn)])), (b8, .inl (cy 1, mm, .inl bx)), (oa, .inl (cy 0, 60, .inl (upd oo k 103))), (fa, .inl (cy 0, 60, .inl (upd (upd fi k 0) k (zNu bx nn 2 (he + 1))))), (sa, .inl (cy 0, 60, .inl (upd se k 0)))] := hD
      exact zzret hend hx hb hr hlk hK hP hD hS dX1_readCommand_275 (zI_nar _) (by rfl) (by simp only [upd_u])
    · exact absurd c_2 (by decide)

abbrev rmX1_readCommand_r107 : Room := { frames := 7, cells := 0, slots := 0, locals := 156 }
set_option maxHeartbeats 4000000 in
set_option maxRecDepth 100000 in
theorem c_X1_readCommand_r107 {G : zG} (hg : zGJ G) (l : Launch) (D : va_G) (cy : Nat → ClassId) (ic : Nat) (oa : Nat) (fa : Nat) (sa : Nat) (kc : Nat) (he : Nat) (o8 : Nat) (b8 : Nat) (ml : Int32) (nn : Nat) (bx : Nat → Int32) (mm : Nat) (ak : Nat) (av : Nat) (oo : Nat → Int32) (fi : Nat → Int32) (se : Nat → Int32) (k : Nat) (hhe : he ≤ 200) (hnm : nn ≤ mm) (hmm : mm ≤ 100) (hch : ∀ j, j < nn → zch (bx j)) (hgl : ∀ (A : Nat → Prop) (U : State), G A U → zLit ak av A U) (hk : k < 60) (hhe6 : he ≤ 60) (hc : zqs bx nn he = 107) : zM G D vwCl (zT cy) l yX1_readCommand wsX1_readCommand rmX1_readCommand_r107 [.ref ic, .int (nI k)] [(ic, .inr (5, [.ref o8, .ref oa, .ref fa, .ref sa, .int (nI kc), .int (nI he)])), (o8, .inr (1, [.ref b8, .int 0, .int ml, .int (nI nn)])), (b8, .inl (cy 1, mm, .inl bx)), (oa, .inl (cy 0, 60, .inl oo)), (fa, .inl (cy 0, 60, .inl fi)), (sa, .inl (cy 0, 60, .inl se))] (some (.int (zI (!(decide (zdN bx nn 2 (he + 1) = 0)))))) [(ic, .inr (5, [.ref o8, .ref oa, .ref fa, .ref sa, .int (nI kc), .int (nI ((he + 1) + zdN bx nn 2 (he + 1)))])), (o8, .inr (1, [.ref b8, .int 0, .int ml, .int (nI nn)])), (b8, .inl (cy 1, mm, .inl bx)), (oa, .inl (cy 0, 60, .inl (upd oo k 107))), (fa, .inl (cy 0, 60, .inl (upd fi k (zNu bx nn 2 (he + 1))))), (sa, .inl (cy 0, 60, .inl (upd se k (0))))] := by
  refine zM_of (cc := cX1_readCommand) (maxL := 2) (ret := (some .boolean)) (by decide) rfl (Nat.le_of_ble_eq_true rfl) ?_
  intro p e s m below meth c A Q hend hx hb hml hr hts hown hlk hG hK hP hD hA hS ls hl
  have hown : s.vm.findClass RX1 = some m.cls := hown
  have in_RX1 : ∀ w ∈ u_ws RX1 TX1 6, w ∈ wsX1_readCommand := by decide +kernel
  have hl : lv_has ls 2 [(0, .ref ic), (1, .int (nI k))] := hl
  have hlt : he < nn := zqs_lt hc (by decide)
  have hb0 : bx he = 107 := by have h9 := hc; rw [zqs, if_pos hlt] at h9; exact h9
  refine lv_aload_n hx hb dX1_readCommand_0 rfl (lv_at hl 0 rfl) ?_
  refine va_get (D := D) (ci := 5) (v := .int (nI he)) (C := RX1) (T := TX1) (N := 6) hx hb hts in_RX1 hown hK hP 0 rfl rfl 5 (by decide) (hts _ (List.mem_of_getElem? (i := 1) rfl)) (fun _ h9 => h9) rfl dX1_readCommand_1 ?_
  refine lv_aload_n hx hb dX1_readCommand_4 rfl (lv_at hl 0 rfl) ?_
  refine va_get (D := D) (ci := 5) (v := .ref o8) (C := RX1) (T := TX1) (N := 6) hx hb hts in_RX1 hown hK hP 0 rfl rfl 0 (by decide) (hts _ (List.mem_of_getElem? (i := 2) rfl)) (fun _ h9 => h9) rfl dX1_readCommand_5 ?_
  refine zcV (As := []) (rest := [.int (nI he)]) [1] 1 hg.1.1 ⟨hx, hb, hml, hown, hts⟩ (c_J4_length_8abf5 hg.1 l D cy o8 b8 ml nn) (cwV 0 hts gX1_readCommand_J4_length_8abf5 rfl rfl rfl (by decide +kernel) ⟨Nat.le_of_ble_eq_true rfl, Nat.le_of_ble_eq_true rfl⟩) hG hK hP hD hS hA rfl rfl rfl rfl rfl rfl hl.1 rfl (Nat.le_of_ble_eq_true rfl) dX1_readCommand_8 ⟨Nat.zero_le _, Nat.zero_le _⟩ (fun H locs hP hD hS => ?_)
  have hP : va_P D vwCl [(ic, .inr (5, [.ref o8, .ref oa, .ref fa, .ref sa, .int (nI kc), .int (nI he)])), (o8, .inr (1, [.ref b8, .int 0, .int ml, .int (nI nn)])), (b8, .inl (cy 1, mm, .inl bx)), (oa, .inl (cy 0, 60, .inl oo)), (fa, .inl (cy 0, 60, .inl fi)), (sa, .inl (cy 0, 60, .inl se))] H := hP
  have hD : va_D A [(ic, .inr (5, [.ref o8, .ref oa, .ref fa, .ref sa, .int (nI kc), .int (nI he)])), (o8, .inr (1, [.ref b8, .int 0, .int ml, .int (nI nn)])), (b8, .inl (cy 1, mm, .inl bx)), (oa, .inl (cy 0, 60, .inl oo)), (fa, .inl (cy 0, 60, .inl fi)), (sa, .inl (cy 0, 60, .inl se))] := hD
  refine lv_icmp_ge (tgt := 33) hx hb dX1_readCommand_11 (by decide) (fun c_1 => ?_) (fun c_1 => ?_)
  · exact absurd ((nI_leI (by omega) (by omega)).mp c_1) (Nat.not_le.mpr hlt)
  · refine va_ldcS hx hb hown (hgl A s hG).1 dX1_readCommand_14 ?_
    refine lv_aload_n hx hb dX1_readCommand_16 rfl (lv_at hl 0 rfl) ?_
    refine va_get (D := D) (ci := 5) (v := .ref o8) (C := RX1) (T := TX1) (N := 6) hx hb hts in_RX1 hown hK hP 0 rfl rfl 0 (by decide) (hts _ (List.mem_of_getElem? (i := 2) rfl)) (fun _ h9 => h9) rfl dX1_readCommand_17 ?_
    refine lv_aload_n hx hb dX1_readCommand_20 rfl (lv_at hl 0 rfl) ?_
    refine va_get (D := D) (ci := 5) (v := .int (nI he)) (C := RX1) (T := TX1) (N := 6) hx hb hts in_RX1 hown hK hP 0 rfl rfl 5 (by decide) (hts _ (List.mem_of_getElem? (i := 1) rfl)) (fun _ h9 => h9) rfl dX1_readCommand_21 ?_
    refine zcV (As := [.int (nI he)]) (rest := [.ref ak]) [1, 2] 1 hg.1.1 ⟨hx, hb, hml, hown, hts⟩ (c_J4_charAt_5068e hg l D cy o8 b8 ml nn bx mm he (by first | assumption | omega) (by first | assumption | omega) (by first | assumption | omega) (by first | assumption | omega)) (cwV 1 hts gX1_readCommand_J4_charAt_5068e rfl rfl rfl (by decide +kernel) ⟨Nat.le_of_ble_eq_true rfl, Nat.le_of_ble_eq_true rfl⟩) hG hK hP hD hS hA rfl rfl rfl rfl rfl rfl hl.1 rfl (Nat.le_of_ble_eq_true rfl) dX1_readCommand_24 ⟨Nat.zero_le _, Nat.zero_le _⟩ (fun H locs hP hD hS => ?_)
    have hP : va_P D vwCl [(ic, .inr (5, [.ref o8, .ref oa, .ref fa, .ref sa, .int (nI kc), .int (nI he)])), (o8, .inr (1, [.ref b8, .int 0, .int ml, .int (nI nn)])), (b8, .inl (cy 1, mm, .inl bx)), (oa, .inl (cy 0, 60, .inl oo)), (fa, .inl (cy 0, 60, .inl fi)), (sa, .inl (cy 0, 60, .inl se))] H := hP
    have hD : va_D A [(ic, .inr (5, [.ref o8, .ref oa, .ref fa, .ref sa, .int (nI kc), .int (nI he)])), (o8, .inr (1, [.ref b8, .int 0, .int ml, .int (nI nn)])), (b8, .inl (cy 1, mm, .inl bx)), (oa, .inl (cy 0, 60, .inl oo)), (fa, .inl (cy 0, 60, .inl fi)), (sa, .inl (cy 0, 60, .inl se))] := hD
    refine z_top (y := 107) (hb0) ?_
    refine zcVK (C := RJ0) (As := [.int 107]) (rest := []) [] hg.1.1 ⟨hx, hb, hml, hown, hts⟩ (c_J0_indexOf_0f7a4 hg l D cy ak av 107 (by first | assumption | omega) (by decide) (by decide) (by decide)) (cwV 1 hts gX1_readCommand_J0_indexOf_0f7a4 rfl rfl rfl (by decide +kernel) ⟨Nat.le_of_ble_eq_true rfl, Nat.le_of_ble_eq_true rfl⟩) (hgl A s hG).2.1 hG hK hP hD hS hA rfl rfl rfl  rfl hl.1 rfl (Nat.le_of_ble_eq_true rfl) dX1_readCommand_27 ⟨Nat.zero_le _, Nat.zero_le _⟩ (fun H locs hP hD hS => ?_)
    have hP : va_P D vwCl [(ic, .inr (5, [.ref o8, .ref oa, .ref fa, .ref sa, .int (nI kc), .int (nI he)])), (o8, .inr (1, [.ref b8, .int 0, .int ml, .int (nI nn)])), (b8, .inl (cy 1, mm, .inl bx)), (oa, .inl (cy 0, 60, .inl oo)), (fa, .inl (cy 0, 60, .inl fi)), (sa, .inl (cy 0, 60, .inl se))] H := hP
    have hD : va_D A [(ic, .inr (5, [.ref o8, .ref oa, .ref fa, .ref sa, .int (nI kc), .int (nI he)])), (o8, .inr (1, [.ref b8, .int 0, .int ml, .int (nI nn)])), (b8, .inl (cy 1, mm, .inl bx)), (oa, .inl (cy 0, 60, .inl oo)), (fa, .inl (cy 0, 60, .inl fi)), (sa, .inl (cy 0, 60, .inl se))] := hD
    refine z_top (y := 13) (by decide) ?_
    refine lv_if_ge (tgt := 35) hx hb dX1_readCommand_30 (by decide) (fun c_2 => ?_) (fun c_2 => ?_)
    · refine lv_aload_n hx hb dX1_readCommand_35 rfl (lv_at hl 0 rfl) ?_
      refine va_get (D := D) (ci := 5) (v := .ref oa) (C := RX1) (T := TX1) (N := 6) hx hb hts in_RX1 hown hK hP 0 rfl rfl 1 (by decide) (hts _ (List.mem_of_getElem? (i := 3) rfl)) (fun _ h9 => h9) rfl dX1_readCommand_36 ?_
      refine lv_iload_n hx hb dX1_readCommand_39 rfl (lv_at hl 1 rfl) ?_
      refine lv_aload_n hx hb dX1_readCommand_40 rfl (lv_at hl 0 rfl) ?_
      refine va_get (D := D) (ci := 5) (v := .ref o8) (C := RX1) (T := TX1) (N := 6) hx hb hts in_RX1 hown hK hP 0 rfl rfl 0 (by decide) (hts _ (List.mem_of_getElem? (i := 2) rfl)) (fun _ h9 => h9) rfl dX1_readCommand_41 ?_
      refine lv_aload_n hx hb dX1_readCommand_44 rfl (lv_at hl 0 rfl) ?_
      refine va_get (D := D) (ci := 5) (v := .int (nI he)) (C := RX1) (T := TX1) (N := 6) hx hb hts in_RX1 hown hK hP 0 rfl rfl 5 (by decide) (hts _ (List.mem_of_getElem? (i := 1) rfl)) (fun _ h9 => h9) rfl dX1_readCommand_45 ?_
      refine zcV (As := [.int (nI he)]) (rest := [.int (nI k), .ref oa]) [1, 2] 1 hg.1.1 ⟨hx, hb, hml, hown, hts⟩ (c_J4_charAt_5068e hg l D cy o8 b8 ml nn bx mm he (by first | assumption | omega) (by first | assumption | omega) (by first | assumption | omega) (by first | assumption | omega)) (cwV 1 hts gX1_readCommand_J4_charAt_5068e rfl rfl rfl (by decide +kernel) ⟨Nat.le_of_ble_eq_true rfl, Nat.le_of_ble_eq_true rfl⟩) hG hK hP hD hS hA rfl rfl rfl rfl rfl rfl hl.1 rfl (Nat.le_of_ble_eq_true rfl) dX1_readCommand_48 ⟨Nat.zero_le _, Nat.zero_le _⟩ (fun H locs hP hD hS => ?_)
      have hP : va_P D vwCl [(ic, .inr (5, [.ref o8, .ref oa, .ref fa, .ref sa, .int (nI kc), .int (nI he)])), (o8, .inr (1, [.ref b8, .int 0, .int ml, .int (nI nn)])), (b8, .inl (cy 1, mm, .inl bx)), (oa, .inl (cy 0, 60, .inl oo)), (fa, .inl (cy 0, 60, .inl fi)), (sa, .inl (cy 0, 60, .inl se))] H := hP
      have hD : va_D A [(ic, .inr (5, [.ref o8, .ref oa, .ref fa, .ref sa, .int (nI kc), .int (nI he)])), (o8, .inr (1, [.ref b8, .int 0, .int ml, .int (nI nn)])), (b8, .inl (cy 1, mm, .inl bx)), (oa, .inl (cy 0, 60, .inl oo)), (fa, .inl (cy 0, 60, .inl fi)), (sa, .inl (cy 0, 60, .inl se))] := hD
      refine z_top (y := 107) (hb0) ?_
      refine ziast 3 0 k hx hb hK hP hD hS rfl rfl (by omega) (z_lt rfl) dX1_readCommand_51 (fun H locs hP hD hS => ?_)
      have hP : va_P D vwCl [(ic, .inr (5, [.ref o8, .ref oa, .ref fa, .ref sa, .int (nI kc), .int (nI he)])), (o8, .inr (1, [.ref b8, .int 0, .int ml, .int (nI nn)])), (b8, .inl (cy 1, mm, .inl bx)), (oa, .inl (cy 0, 60, .inl (upd oo k 107))), (fa, .inl (cy 0, 60, .inl fi)), (sa, .inl (cy 0, 60, .inl se))] H := hP
      have hD : va_D A [(ic, .inr (5, [.ref o8, .ref oa, .ref fa, .ref sa, .int (nI kc), .int (nI he)])), (o8, .inr (1, [.ref b8, .int 0, .int ml, .int (nI nn)])), (b8, .inl (cy 1, mm, .inl bx)), (oa, .inl (cy 0, 60, .inl (upd oo k 107))), (fa, .inl (cy 0, 60, .inl fi)), (sa, .inl (cy 0, 60, .inl se))] := hD
      refine lv_aload_n hx hb dX1_readCommand_52 rfl (lv_at hl 0 rfl) ?_
      refine va_get (D := D) (ci := 5) (v := .ref fa) (C := RX1) (T := TX1) (N := 6) hx hb hts in_RX1 hown hK hP 0 rfl rfl 2 (by decide) (hts _ (List.mem_of_getElem? (i := 4) rfl)) (fun _ h9 => h9) rfl dX1_readCommand_53 ?_
      refine lv_iload_n hx hb dX1_readCommand_56 rfl (lv_at hl 1 rfl) ?_
      refine lv_iconst (v := 0) hx hb dX1_readCommand_57 (by decide) ?_
      refine ziast 4 0 k hx hb hK hP hD hS rfl rfl (by omega) (z_lt rfl) dX1_readCommand_58 (fun H locs hP hD hS => ?_)
      have hP : va_P D vwCl [(ic, .inr (5, [.ref o8, .ref oa, .ref fa, .ref sa, .int (nI kc), .int (nI he)])), (o8, .inr (1, [.ref b8, .int 0, .int ml, .int (nI nn)])), (b8, .inl (cy 1, mm, .inl bx)), (oa, .inl (cy 0, 60, .inl (upd oo k 107))), (fa, .inl (cy 0, 60, .inl (upd fi k 0))), (sa, .inl (cy 0, 60, .inl se))] H := hP
      have hD : va_D A [(ic, .inr (5, [.ref o8, .ref oa, .ref fa, .ref sa, .int (nI kc), .int (nI he)])), (o8, .inr (1, [.ref b8, .int 0, .int ml, .int (nI nn)])), (b8, .inl (cy 1, mm, .inl bx)), (oa, .inl (cy 0, 60, .inl (upd oo k 107))), (fa, .inl (cy 0, 60, .inl (upd fi k 0))), (sa, .inl (cy 0, 60, .inl se))] := hD
      refine lv_aload_n hx hb dX1_readCommand_59 rfl (lv_at hl 0 rfl) ?_
      refine va_get (D := D) (ci := 5) (v := .ref sa) (C := RX1) (T := TX1) (N := 6) hx hb hts in_RX1 hown hK hP 0 rfl rfl 3 (by decide) (hts _ (List.mem_of_getElem? (i := 5) rfl)) (fun _ h9 => h9) rfl dX1_readCommand_60 ?_
      refine lv_iload_n hx hb dX1_readCommand_63 rfl (lv_at hl 1 rfl) ?_
      refine lv_iconst (v := 0) hx hb dX1_readCommand_64 (by decide) ?_
      refine ziast 5 0 k hx hb hK hP hD hS rfl rfl (by omega) (z_lt rfl) dX1_readCommand_65 (fun H locs hP hD hS => ?_)
      have hP : va_P D vwCl [(ic, .inr (5, [.ref o8, .ref oa, .ref fa, .ref sa, .int (nI kc), .int (nI he)])), (o8, .inr (1, [.ref b8, .int 0, .int ml, .int (nI nn)])), (b8, .inl (cy 1, mm, .inl bx)), (oa, .inl (cy 0, 60, .inl (upd oo k 107))), (fa, .inl (cy 0, 60, .inl (upd fi k 0))), (sa, .inl (cy 0, 60, .inl (upd se k 0)))] H := hP
      have hD : va_D A [(ic, .inr (5, [.ref o8, .ref oa, .ref fa, .ref sa, .int (nI kc), .int (nI he)])), (o8, .inr (1, [.ref b8, .int 0, .int ml, .int (nI nn)])), (b8, .inl (cy 1, mm, .inl bx)), (oa, .inl (cy 0, 60, .inl (upd oo k 107))), (fa, .inl (cy 0, 60, .inl (upd fi k 0))), (sa, .inl (cy 0, 60, .inl (upd se k 0)))] := hD
      refine lv_aload_n hx hb dX1_readCommand_66 rfl (lv_at hl 0 rfl) ?_
      refine lv_dup hx hb dX1_readCommand_67 rfl ?_
      refine va_get (D := D) (ci := 5) (v := .int (nI he)) (C := RX1) (T := TX1) (N := 6) hx hb hts in_RX1 hown hK hP 0 rfl rfl 5 (by decide) (hts _ (List.mem_of_getElem? (i := 1) rfl)) (fun _ h9 => h9) rfl dX1_readCommand_68 ?_
      refine lv_iconst (v := 1) hx hb dX1_readCommand_71 (by decide) ?_
      refine lv_iadd hx hb dX1_readCommand_72 ?_
      refine z_top (y := nI (he + 1)) (nI_add he 1) ?_
      refine va_put (D := D) (ci := 5) (v := .int (nI (he + 1))) (ty := .int) (C := RX1) (T := TX1) (N := 6) hx hb hts in_RX1 tyX1 tyX1_ok nmX1 hown hK hP hD hS 0 rfl rfl 5 (by decide) (hts _ (List.mem_of_getElem? (i := 1) rfl)) (fun _ h9 => h9) rfl (by decide +kernel) rfl rfl (Nat.le_of_ble_eq_true rfl) dX1_readCommand_73 (fun H locs hP hD hS => ?_)
      have hP : va_P D vwCl [(ic, .inr (5, [.ref o8, .ref oa, .ref fa, .ref sa, .int (nI kc), .int (nI (he + 1))])), (o8, .inr (1, [.ref b8, .int 0, .int ml, .int (nI nn)])), (b8, .inl (cy 1, mm, .inl bx)), (oa, .inl (cy 0, 60, .inl (upd oo k 107))), (fa, .inl (cy 0, 60, .inl (upd fi k 0))), (sa, .inl (cy 0, 60, .inl (upd se k 0)))] H := hP
      have hD : va_D A [(ic, .inr (5, [.ref o8, .ref oa, .ref fa, .ref sa, .int (nI kc), .int (nI (he + 1))])), (o8, .inr (1, [.ref b8, .int 0, .int ml, .int (nI nn)])), (b8, .inl (cy 1, mm, .inl bx)), (oa, .inl (cy 0, 60, .inl (upd oo k 107))), (fa, .inl (cy 0, 60, .inl (upd fi k 0))), (sa, .inl (cy 0, 60, .inl (upd se k 0)))] := hD
      refine lv_aload_n hx hb dX1_readCommand_76 rfl (lv_at hl 0 rfl) ?_
      refine va_get (D := D) (ci := 5) (v := .ref oa) (C := RX1) (T := TX1) (N := 6) hx hb hts in_RX1 hown hK hP 0 rfl rfl 1 (by decide) (hts _ (List.mem_of_getElem? (i := 3) rfl)) (fun _ h9 => h9) rfl dX1_readCommand_77 ?_
      refine lv_iload_n hx hb dX1_readCommand_80 rfl (lv_at hl 1 rfl) ?_
      refine ziald 3 0 k hx hb hK hP rfl rfl (by omega) (z_lt rfl) dX1_readCommand_81 ?_
      refine z_top (y := 107) (upd_s) ?_
      refine lv_tableIn (off := 187) (tgt := 269) hx hb dX1_readCommand_82 (by decide) (by decide) (by decide) (by decide) ?_
      refine lv_aload_n hx hb dX1_readCommand_269 rfl (lv_at hl 0 rfl) ?_
      refine lv_iload_n hx hb dX1_readCommand_270 rfl (lv_at hl 1 rfl) ?_
      refine lv_iconst (v := 2) hx hb dX1_readCommand_271 (by decide) ?_
      refine z_top (y := nI 2) (rfl) ?_
      refine zcV (As := [.int (nI k), .int (nI 2)]) (rest := []) [0, 1, 2, 4] 0 hg.1.1 ⟨hx, hb, hml, hown, hts⟩ (c_X1_readFirst hg l D cy ic oa fa sa kc (he + 1) o8 b8 ml nn bx mm 2 k (upd fi k 0) (by first | assumption | decide | omega) (by first | assumption | decide | omega) (by first | assumption | decide | omega) (by first | assumption | decide | omega) (by first | assumption | decide | omega) (by first | assumption | decide | omega) (by first | assumption | decide | omega) (by first | assumption | decide | omega)) (cwV 2 hts gX1_readCommand_X1_readFirst rfl rfl rfl (by decide +kernel) ⟨Nat.le_of_ble_eq_true rfl, Nat.le_of_ble_eq_true rfl⟩) hG hK hP hD hS hA rfl rfl (Eq.trans (b := [ic, o8, b8, fa]) rfl rfl) rfl rfl rfl hl.1 rfl (Nat.le_of_ble_eq_true rfl) dX1_readCommand_272 ⟨Nat.zero_le _, Nat.zero_le _⟩ (fun H locs hP hD hS => ?_)
      have hP : va_P D vwCl [(ic, .inr (5, [.ref o8, .ref oa, .ref fa, .ref sa, .int (nI kc), .int (nI ((he + 1) + zdN bx nn 2 (he + 1)))])), (o8, .inr (1, [.ref b8, .int 0, .int ml, .int (nI nn)])), (b8, .inl (cy 1, mm, .inl bx)), (oa, .inl (cy 0, 60, .inl (upd oo k 107))), (fa, .inl (cy 0, 60, .inl (upd (upd fi k 0) k (zNu bx nn 2 (he + 1))))), (sa, .inl (cy 0, 60, .inl (upd se k 0)))] H := hP
      have hD : va_D A [(ic, .inr (5, [.ref o8, .ref oa, .ref fa, .ref sa, .int (nI kc), .int (nI ((he + 1) + zdN bx nn 2 (he + 1)))])), (o8, .inr (1, [.ref b8, .int 0, .int ml, .int (nI nn)])), (b8, .inl (cy 1, mm, .inl bx)), (oa, .inl (cy 0, 60, .inl (upd oo k 107))), (fa, .inl (cy 0, 60, .inl (upd (upd fi k 0) k (zNu bx nn 2 (he + 1))))), (sa, .inl (cy 0, 60, .inl (upd se k 0)))] := hD
      exact zzret hend hx hb hr hlk hK hP hD hS dX1_readCommand_275 (zI_nar _) (by rfl) (by simp only [upd_u])
    · exact absurd c_2 (by decide)

abbrev rmX1_readCommand_r121 : Room := { frames := 7, cells := 0, slots := 0, locals := 156 }
set_option maxHeartbeats 4000000 in
set_option maxRecDepth 100000 in
theorem c_X1_readCommand_r121 {G : zG} (hg : zGJ G) (l : Launch) (D : va_G) (cy : Nat → ClassId) (ic : Nat) (oa : Nat) (fa : Nat) (sa : Nat) (kc : Nat) (he : Nat) (o8 : Nat) (b8 : Nat) (ml : Int32) (nn : Nat) (bx : Nat → Int32) (mm : Nat) (ak : Nat) (av : Nat) (oo : Nat → Int32) (fi : Nat → Int32) (se : Nat → Int32) (k : Nat) (hhe : he ≤ 200) (hnm : nn ≤ mm) (hmm : mm ≤ 100) (hch : ∀ j, j < nn → zch (bx j)) (hgl : ∀ (A : Nat → Prop) (U : State), G A U → zLit ak av A U) (hk : k < 60) (hhe6 : he ≤ 60) (hc : zqs bx nn he = 121) : zM G D vwCl (zT cy) l yX1_readCommand wsX1_readCommand rmX1_readCommand_r121 [.ref ic, .int (nI k)] [(ic, .inr (5, [.ref o8, .ref oa, .ref fa, .ref sa, .int (nI kc), .int (nI he)])), (o8, .inr (1, [.ref b8, .int 0, .int ml, .int (nI nn)])), (b8, .inl (cy 1, mm, .inl bx)), (oa, .inl (cy 0, 60, .inl oo)), (fa, .inl (cy 0, 60, .inl fi)), (sa, .inl (cy 0, 60, .inl se))] (some (.int (zI (!(zbW bx nn ((he + 1) + zdN bx nn 1 (he + 1)) (decide (zdN bx nn 1 (he + 1) = 0)) 61))))) [(ic, .inr (5, [.ref o8, .ref oa, .ref fa, .ref sa, .int (nI kc), .int (nI (zbH bx nn ((he + 1) + zdN bx nn 1 (he + 1)) (decide (zdN bx nn 1 (he + 1) = 0)) 61))])), (o8, .inr (1, [.ref b8, .int 0, .int ml, .int (nI nn)])), (b8, .inl (cy 1, mm, .inl bx)), (oa, .inl (cy 0, 60, .inl (upd oo k 121))), (fa, .inl (cy 0, 60, .inl (upd fi k (zNu bx nn 1 (he + 1))))), (sa, .inl (cy 0, 60, .inl (upd se k (zs2 bx nn ((he + 1) + zdN bx nn 1 (he + 1)) (decide (zdN bx nn 1 (he + 1) = 0)) 61))))] := by
  refine zM_of (cc := cX1_readCommand) (maxL := 2) (ret := (some .boolean)) (by decide) rfl (Nat.le_of_ble_eq_true rfl) ?_
  intro p e s m below meth c A Q hend hx hb hml hr hts hown hlk hG hK hP hD hA hS ls hl
  have hown : s.vm.findClass RX1 = some m.cls := hown
  have in_RX1 : ∀ w ∈ u_ws RX1 TX1 6, w ∈ wsX1_readCommand := by decide +kernel
  have hl : lv_has ls 2 [(0, .ref ic), (1, .int (nI k))] := hl
  have hlt : he < nn := zqs_lt hc (by decide)
  have hb0 : bx he = 121 := by have h9 := hc; rw [zqs, if_pos hlt] at h9; exact h9
  refine lv_aload_n hx hb dX1_readCommand_0 rfl (lv_at hl 0 rfl) ?_
  refine va_get (D := D) (ci := 5) (v := .int (nI he)) (C := RX1) (T := TX1) (N := 6) hx hb hts in_RX1 hown hK hP 0 rfl rfl 5 (by decide) (hts _ (List.mem_of_getElem? (i := 1) rfl)) (fun _ h9 => h9) rfl dX1_readCommand_1 ?_
  refine lv_aload_n hx hb dX1_readCommand_4 rfl (lv_at hl 0 rfl) ?_
  refine va_get (D := D) (ci := 5) (v := .ref o8) (C := RX1) (T := TX1) (N := 6) hx hb hts in_RX1 hown hK hP 0 rfl rfl 0 (by decide) (hts _ (List.mem_of_getElem? (i := 2) rfl)) (fun _ h9 => h9) rfl dX1_readCommand_5 ?_
  refine zcV (As := []) (rest := [.int (nI he)]) [1] 1 hg.1.1 ⟨hx, hb, hml, hown, hts⟩ (c_J4_length_8abf5 hg.1 l D cy o8 b8 ml nn) (cwV 0 hts gX1_readCommand_J4_length_8abf5 rfl rfl rfl (by decide +kernel) ⟨Nat.le_of_ble_eq_true rfl, Nat.le_of_ble_eq_true rfl⟩) hG hK hP hD hS hA rfl rfl rfl rfl rfl rfl hl.1 rfl (Nat.le_of_ble_eq_true rfl) dX1_readCommand_8 ⟨Nat.zero_le _, Nat.zero_le _⟩ (fun H locs hP hD hS => ?_)
  have hP : va_P D vwCl [(ic, .inr (5, [.ref o8, .ref oa, .ref fa, .ref sa, .int (nI kc), .int (nI he)])), (o8, .inr (1, [.ref b8, .int 0, .int ml, .int (nI nn)])), (b8, .inl (cy 1, mm, .inl bx)), (oa, .inl (cy 0, 60, .inl oo)), (fa, .inl (cy 0, 60, .inl fi)), (sa, .inl (cy 0, 60, .inl se))] H := hP
  have hD : va_D A [(ic, .inr (5, [.ref o8, .ref oa, .ref fa, .ref sa, .int (nI kc), .int (nI he)])), (o8, .inr (1, [.ref b8, .int 0, .int ml, .int (nI nn)])), (b8, .inl (cy 1, mm, .inl bx)), (oa, .inl (cy 0, 60, .inl oo)), (fa, .inl (cy 0, 60, .inl fi)), (sa, .inl (cy 0, 60, .inl se))] := hD
  refine lv_icmp_ge (tgt := 33) hx hb dX1_readCommand_11 (by decide) (fun c_1 => ?_) (fun c_1 => ?_)
  · exact absurd ((nI_leI (by omega) (by omega)).mp c_1) (Nat.not_le.mpr hlt)
  · refine va_ldcS hx hb hown (hgl A s hG).1 dX1_readCommand_14 ?_
    refine lv_aload_n hx hb dX1_readCommand_16 rfl (lv_at hl 0 rfl) ?_
    refine va_get (D := D) (ci := 5) (v := .ref o8) (C := RX1) (T := TX1) (N := 6) hx hb hts in_RX1 hown hK hP 0 rfl rfl 0 (by decide) (hts _ (List.mem_of_getElem? (i := 2) rfl)) (fun _ h9 => h9) rfl dX1_readCommand_17 ?_
    refine lv_aload_n hx hb dX1_readCommand_20 rfl (lv_at hl 0 rfl) ?_
    refine va_get (D := D) (ci := 5) (v := .int (nI he)) (C := RX1) (T := TX1) (N := 6) hx hb hts in_RX1 hown hK hP 0 rfl rfl 5 (by decide) (hts _ (List.mem_of_getElem? (i := 1) rfl)) (fun _ h9 => h9) rfl dX1_readCommand_21 ?_
    refine zcV (As := [.int (nI he)]) (rest := [.ref ak]) [1, 2] 1 hg.1.1 ⟨hx, hb, hml, hown, hts⟩ (c_J4_charAt_5068e hg l D cy o8 b8 ml nn bx mm he (by first | assumption | omega) (by first | assumption | omega) (by first | assumption | omega) (by first | assumption | omega)) (cwV 1 hts gX1_readCommand_J4_charAt_5068e rfl rfl rfl (by decide +kernel) ⟨Nat.le_of_ble_eq_true rfl, Nat.le_of_ble_eq_true rfl⟩) hG hK hP hD hS hA rfl rfl rfl rfl rfl rfl hl.1 rfl (Nat.le_of_ble_eq_true rfl) dX1_readCommand_24 ⟨Nat.zero_le _, Nat.zero_le _⟩ (fun H locs hP hD hS => ?_)
    have hP : va_P D vwCl [(ic, .inr (5, [.ref o8, .ref oa, .ref fa, .ref sa, .int (nI kc), .int (nI he)])), (o8, .inr (1, [.ref b8, .int 0, .int ml, .int (nI nn)])), (b8, .inl (cy 1, mm, .inl bx)), (oa, .inl (cy 0, 60, .inl oo)), (fa, .inl (cy 0, 60, .inl fi)), (sa, .inl (cy 0, 60, .inl se))] H := hP
    have hD : va_D A [(ic, .inr (5, [.ref o8, .ref oa, .ref fa, .ref sa, .int (nI kc), .int (nI he)])), (o8, .inr (1, [.ref b8, .int 0, .int ml, .int (nI nn)])), (b8, .inl (cy 1, mm, .inl bx)), (oa, .inl (cy 0, 60, .inl oo)), (fa, .inl (cy 0, 60, .inl fi)), (sa, .inl (cy 0, 60, .inl se))] := hD
    refine z_top (y := 121) (hb0) ?_
    refine zcVK (C := RJ0) (As := [.int 121]) (rest := []) [] hg.1.1 ⟨hx, hb, hml, hown, hts⟩ (c_J0_indexOf_0f7a4 hg l D cy ak av 121 (by first | assumption | omega) (by decide) (by decide) (by decide)) (cwV 1 hts gX1_readCommand_J0_indexOf_0f7a4 rfl rfl rfl (by decide +kernel) ⟨Nat.le_of_ble_eq_true rfl, Nat.le_of_ble_eq_true rfl⟩) (hgl A s hG).2.1 hG hK hP hD hS hA rfl rfl rfl  rfl hl.1 rfl (Nat.le_of_ble_eq_true rfl) dX1_readCommand_27 ⟨Nat.zero_le _, Nat.zero_le _⟩ (fun H locs hP hD hS => ?_)
    have hP : va_P D vwCl [(ic, .inr (5, [.ref o8, .ref oa, .ref fa, .ref sa, .int (nI kc), .int (nI he)])), (o8, .inr (1, [.ref b8, .int 0, .int ml, .int (nI nn)])), (b8, .inl (cy 1, mm, .inl bx)), (oa, .inl (cy 0, 60, .inl oo)), (fa, .inl (cy 0, 60, .inl fi)), (sa, .inl (cy 0, 60, .inl se))] H := hP
    have hD : va_D A [(ic, .inr (5, [.ref o8, .ref oa, .ref fa, .ref sa, .int (nI kc), .int (nI he)])), (o8, .inr (1, [.ref b8, .int 0, .int ml, .int (nI nn)])), (b8, .inl (cy 1, mm, .inl bx)), (oa, .inl (cy 0, 60, .inl oo)), (fa, .inl (cy 0, 60, .inl fi)), (sa, .inl (cy 0, 60, .inl se))] := hD
    refine z_top (y := 8) (by decide) ?_
    refine lv_if_ge (tgt := 35) hx hb dX1_readCommand_30 (by decide) (fun c_2 => ?_) (fun c_2 => ?_)
    · refine lv_aload_n hx hb dX1_readCommand_35 rfl (lv_at hl 0 rfl) ?_
      refine va_get (D := D) (ci := 5) (v := .ref oa) (C := RX1) (T := TX1) (N := 6) hx hb hts in_RX1 hown hK hP 0 rfl rfl 1 (by decide) (hts _ (List.mem_of_getElem? (i := 3) rfl)) (fun _ h9 => h9) rfl dX1_readCommand_36 ?_
      refine lv_iload_n hx hb dX1_readCommand_39 rfl (lv_at hl 1 rfl) ?_
      refine lv_aload_n hx hb dX1_readCommand_40 rfl (lv_at hl 0 rfl) ?_
      refine va_get (D := D) (ci := 5) (v := .ref o8) (C := RX1) (T := TX1) (N := 6) hx hb hts in_RX1 hown hK hP 0 rfl rfl 0 (by decide) (hts _ (List.mem_of_getElem? (i := 2) rfl)) (fun _ h9 => h9) rfl dX1_readCommand_41 ?_
      refine lv_aload_n hx hb dX1_readCommand_44 rfl (lv_at hl 0 rfl) ?_
      refine va_get (D := D) (ci := 5) (v := .int (nI he)) (C := RX1) (T := TX1) (N := 6) hx hb hts in_RX1 hown hK hP 0 rfl rfl 5 (by decide) (hts _ (List.mem_of_getElem? (i := 1) rfl)) (fun _ h9 => h9) rfl dX1_readCommand_45 ?_
      refine zcV (As := [.int (nI he)]) (rest := [.int (nI k), .ref oa]) [1, 2] 1 hg.1.1 ⟨hx, hb, hml, hown, hts⟩ (c_J4_charAt_5068e hg l D cy o8 b8 ml nn bx mm he (by first | assumption | omega) (by first | assumption | omega) (by first | assumption | omega) (by first | assumption | omega)) (cwV 1 hts gX1_readCommand_J4_charAt_5068e rfl rfl rfl (by decide +kernel) ⟨Nat.le_of_ble_eq_true rfl, Nat.le_of_ble_eq_true rfl⟩) hG hK hP hD hS hA rfl rfl rfl rfl rfl rfl hl.1 rfl (Nat.le_of_ble_eq_true rfl) dX1_readCommand_48 ⟨Nat.zero_le _, Nat.zero_le _⟩ (fun H locs hP hD hS => ?_)
      have hP : va_P D vwCl [(ic, .inr (5, [.ref o8, .ref oa, .ref fa, .ref sa, .int (nI kc), .int (nI he)])), (o8, .inr (1, [.ref b8, .int 0, .int ml, .int (nI nn)])), (b8, .inl (cy 1, mm, .inl bx)), (oa, .inl (cy 0, 60, .inl oo)), (fa, .inl (cy 0, 60, .inl fi)), (sa, .inl (cy 0, 60, .inl se))] H := hP
      have hD : va_D A [(ic, .inr (5, [.ref o8, .ref oa, .ref fa, .ref sa, .int (nI kc), .int (nI he)])), (o8, .inr (1, [.ref b8, .int 0, .int ml, .int (nI nn)])), (b8, .inl (cy 1, mm, .inl bx)), (oa, .inl (cy 0, 60, .inl oo)), (fa, .inl (cy 0, 60, .inl fi)), (sa, .inl (cy 0, 60, .inl se))] := hD
      refine z_top (y := 121) (hb0) ?_
      refine ziast 3 0 k hx hb hK hP hD hS rfl rfl (by omega) (z_lt rfl) dX1_readCommand_51 (fun H locs hP hD hS => ?_)
      have hP : va_P D vwCl [(ic, .inr (5, [.ref o8, .ref oa, .ref fa, .ref sa, .int (nI kc), .int (nI he)])), (o8, .inr (1, [.ref b8, .int 0, .int ml, .int (nI nn)])), (b8, .inl (cy 1, mm, .inl bx)), (oa, .inl (cy 0, 60, .inl (upd oo k 121))), (fa, .inl (cy 0, 60, .inl fi)), (sa, .inl (cy 0, 60, .inl se))] H := hP
      have hD : va_D A [(ic, .inr (5, [.ref o8, .ref oa, .ref fa, .ref sa, .int (nI kc), .int (nI he)])), (o8, .inr (1, [.ref b8, .int 0, .int ml, .int (nI nn)])), (b8, .inl (cy 1, mm, .inl bx)), (oa, .inl (cy 0, 60, .inl (upd oo k 121))), (fa, .inl (cy 0, 60, .inl fi)), (sa, .inl (cy 0, 60, .inl se))] := hD
      refine lv_aload_n hx hb dX1_readCommand_52 rfl (lv_at hl 0 rfl) ?_
      refine va_get (D := D) (ci := 5) (v := .ref fa) (C := RX1) (T := TX1) (N := 6) hx hb hts in_RX1 hown hK hP 0 rfl rfl 2 (by decide) (hts _ (List.mem_of_getElem? (i := 4) rfl)) (fun _ h9 => h9) rfl dX1_readCommand_53 ?_
      refine lv_iload_n hx hb dX1_readCommand_56 rfl (lv_at hl 1 rfl) ?_
      refine lv_iconst (v := 0) hx hb dX1_readCommand_57 (by decide) ?_
      refine ziast 4 0 k hx hb hK hP hD hS rfl rfl (by omega) (z_lt rfl) dX1_readCommand_58 (fun H locs hP hD hS => ?_)
      have hP : va_P D vwCl [(ic, .inr (5, [.ref o8, .ref oa, .ref fa, .ref sa, .int (nI kc), .int (nI he)])), (o8, .inr (1, [.ref b8, .int 0, .int ml, .int (nI nn)])), (b8, .inl (cy 1, mm, .inl bx)), (oa, .inl (cy 0, 60, .inl (upd oo k 121))), (fa, .inl (cy 0, 60, .inl (upd fi k 0))), (sa, .inl (cy 0, 60, .inl se))] H := hP
      have hD : va_D A [(ic, .inr (5, [.ref o8, .ref oa, .ref fa, .ref sa, .int (nI kc), .int (nI he)])), (o8, .inr (1, [.ref b8, .int 0, .int ml, .int (nI nn)])), (b8, .inl (cy 1, mm, .inl bx)), (oa, .inl (cy 0, 60, .inl (upd oo k 121))), (fa, .inl (cy 0, 60, .inl (upd fi k 0))), (sa, .inl (cy 0, 60, .inl se))] := hD
      refine lv_aload_n hx hb dX1_readCommand_59 rfl (lv_at hl 0 rfl) ?_
      refine va_get (D := D) (ci := 5) (v := .ref sa) (C := RX1) (T := TX1) (N := 6) hx hb hts in_RX1 hown hK hP 0 rfl rfl 3 (by decide) (hts _ (List.mem_of_getElem? (i := 5) rfl)) (fun _ h9 => h9) rfl dX1_readCommand_60 ?_
      refine lv_iload_n hx hb dX1_readCommand_63 rfl (lv_at hl 1 rfl) ?_
      refine lv_iconst (v := 0) hx hb dX1_readCommand_64 (by decide) ?_
      refine ziast 5 0 k hx hb hK hP hD hS rfl rfl (by omega) (z_lt rfl) dX1_readCommand_65 (fun H locs hP hD hS => ?_)
      have hP : va_P D vwCl [(ic, .inr (5, [.ref o8, .ref oa, .ref fa, .ref sa, .int (nI kc), .int (nI he)])), (o8, .inr (1, [.ref b8, .int 0, .int ml, .int (nI nn)])), (b8, .inl (cy 1, mm, .inl bx)), (oa, .inl (cy 0, 60, .inl (upd oo k 121))), (fa, .inl (cy 0, 60, .inl (upd fi k 0))), (sa, .inl (cy 0, 60, .inl (upd se k 0)))] H := hP
      have hD : va_D A [(ic, .inr (5, [.ref o8, .ref oa, .ref fa, .ref sa, .int (nI kc), .int (nI he)])), (o8, .inr (1, [.ref b8, .int 0, .int ml, .int (nI nn)])), (b8, .inl (cy 1, mm, .inl bx)), (oa, .inl (cy 0, 60, .inl (upd oo k 121))), (fa, .inl (cy 0, 60, .inl (upd fi k 0))), (sa, .inl (cy 0, 60, .inl (upd se k 0)))] := hD
      refine lv_aload_n hx hb dX1_readCommand_66 rfl (lv_at hl 0 rfl) ?_
      refine lv_dup hx hb dX1_readCommand_67 rfl ?_
      refine va_get (D := D) (ci := 5) (v := .int (nI he)) (C := RX1) (T := TX1) (N := 6) hx hb hts in_RX1 hown hK hP 0 rfl rfl 5 (by decide) (hts _ (List.mem_of_getElem? (i := 1) rfl)) (fun _ h9 => h9) rfl dX1_readCommand_68 ?_
      refine lv_iconst (v := 1) hx hb dX1_readCommand_71 (by decide) ?_
      refine lv_iadd hx hb dX1_readCommand_72 ?_
      refine z_top (y := nI (he + 1)) (nI_add he 1) ?_
      refine va_put (D := D) (ci := 5) (v := .int (nI (he + 1))) (ty := .int) (C := RX1) (T := TX1) (N := 6) hx hb hts in_RX1 tyX1 tyX1_ok nmX1 hown hK hP hD hS 0 rfl rfl 5 (by decide) (hts _ (List.mem_of_getElem? (i := 1) rfl)) (fun _ h9 => h9) rfl (by decide +kernel) rfl rfl (Nat.le_of_ble_eq_true rfl) dX1_readCommand_73 (fun H locs hP hD hS => ?_)
      have hP : va_P D vwCl [(ic, .inr (5, [.ref o8, .ref oa, .ref fa, .ref sa, .int (nI kc), .int (nI (he + 1))])), (o8, .inr (1, [.ref b8, .int 0, .int ml, .int (nI nn)])), (b8, .inl (cy 1, mm, .inl bx)), (oa, .inl (cy 0, 60, .inl (upd oo k 121))), (fa, .inl (cy 0, 60, .inl (upd fi k 0))), (sa, .inl (cy 0, 60, .inl (upd se k 0)))] H := hP
      have hD : va_D A [(ic, .inr (5, [.ref o8, .ref oa, .ref fa, .ref sa, .int (nI kc), .int (nI (he + 1))])), (o8, .inr (1, [.ref b8, .int 0, .int ml, .int (nI nn)])), (b8, .inl (cy 1, mm, .inl bx)), (oa, .inl (cy 0, 60, .inl (upd oo k 121))), (fa, .inl (cy 0, 60, .inl (upd fi k 0))), (sa, .inl (cy 0, 60, .inl (upd se k 0)))] := hD
      refine lv_aload_n hx hb dX1_readCommand_76 rfl (lv_at hl 0 rfl) ?_
      refine va_get (D := D) (ci := 5) (v := .ref oa) (C := RX1) (T := TX1) (N := 6) hx hb hts in_RX1 hown hK hP 0 rfl rfl 1 (by decide) (hts _ (List.mem_of_getElem? (i := 3) rfl)) (fun _ h9 => h9) rfl dX1_readCommand_77 ?_
      refine lv_iload_n hx hb dX1_readCommand_80 rfl (lv_at hl 1 rfl) ?_
      refine ziald 3 0 k hx hb hK hP rfl rfl (by omega) (z_lt rfl) dX1_readCommand_81 ?_
      refine z_top (y := 121) (upd_s) ?_
      refine lv_tableIn (off := 141) (tgt := 223) hx hb dX1_readCommand_82 (by decide) (by decide) (by decide) (by decide) ?_
      refine lv_aload_n hx hb dX1_readCommand_223 rfl (lv_at hl 0 rfl) ?_
      refine lv_iload_n hx hb dX1_readCommand_224 rfl (lv_at hl 1 rfl) ?_
      refine lv_iconst (v := 1) hx hb dX1_readCommand_225 (by decide) ?_
      refine z_top (y := nI 1) (rfl) ?_
      refine zcV (As := [.int (nI k), .int (nI 1)]) (rest := []) [0, 1, 2, 4] 0 hg.1.1 ⟨hx, hb, hml, hown, hts⟩ (c_X1_readFirst hg l D cy ic oa fa sa kc (he + 1) o8 b8 ml nn bx mm 1 k (upd fi k 0) (by first | assumption | decide | omega) (by first | assumption | decide | omega) (by first | assumption | decide | omega) (by first | assumption | decide | omega) (by first | assumption | decide | omega) (by first | assumption | decide | omega) (by first | assumption | decide | omega) (by first | assumption | decide | omega)) (cwV 2 hts gX1_readCommand_X1_readFirst rfl rfl rfl (by decide +kernel) ⟨Nat.le_of_ble_eq_true rfl, Nat.le_of_ble_eq_true rfl⟩) hG hK hP hD hS hA rfl rfl (Eq.trans (b := [ic, o8, b8, fa]) rfl rfl) rfl rfl rfl hl.1 rfl (Nat.le_of_ble_eq_true rfl) dX1_readCommand_226 ⟨Nat.zero_le _, Nat.zero_le _⟩ (fun H locs hP hD hS => ?_)
      have hP : va_P D vwCl [(ic, .inr (5, [.ref o8, .ref oa, .ref fa, .ref sa, .int (nI kc), .int (nI ((he + 1) + zdN bx nn 1 (he + 1)))])), (o8, .inr (1, [.ref b8, .int 0, .int ml, .int (nI nn)])), (b8, .inl (cy 1, mm, .inl bx)), (oa, .inl (cy 0, 60, .inl (upd oo k 121))), (fa, .inl (cy 0, 60, .inl (upd (upd fi k 0) k (zNu bx nn 1 (he + 1))))), (sa, .inl (cy 0, 60, .inl (upd se k 0)))] H := hP
      have hD : va_D A [(ic, .inr (5, [.ref o8, .ref oa, .ref fa, .ref sa, .int (nI kc), .int (nI ((he + 1) + zdN bx nn 1 (he + 1)))])), (o8, .inr (1, [.ref b8, .int 0, .int ml, .int (nI nn)])), (b8, .inl (cy 1, mm, .inl bx)), (oa, .inl (cy 0, 60, .inl (upd oo k 121))), (fa, .inl (cy 0, 60, .inl (upd (upd fi k 0) k (zNu bx nn 1 (he + 1))))), (sa, .inl (cy 0, 60, .inl (upd se k 0)))] := hD
      refine lv_if_eq (tgt := 254) hx hb dX1_readCommand_229 (by decide) (fun c_3 => ?_) (fun c_3 => ?_)
      · replace c_3 := zI0 c_3
        have h0 : zdN bx nn 1 (he + 1) = 0 := by simpa using c_3
        refine lv_iconst (v := 0) hx hb dX1_readCommand_254 (by decide) ?_
        exact zzret hend hx hb hr hlk hK hP hD hS dX1_readCommand_255 rfl (by first | (simp [zbW, zmW, zI, h0]; done) | (simp [zbW, zmH, zI, h0, hm]; done) | (simp_all [zbW, zI, zmH]; done)) (by first | (simp only [zbH, zs2, zmH, zmW, h0, decide_true, decide_false, Bool.true_or, ↓reduceIte, upd_u]; done) | (simp [zbH, zs2, upd_u, zmH, hm, h0]; done) | (simp_all [zbH, zs2, upd_u, zmH]; done))
      · replace c_3 := zI1 c_3
        have h0 : ¬ zdN bx nn 1 (he + 1) = 0 := by simpa using c_3
        refine lv_aload_n hx hb dX1_readCommand_232 rfl (lv_at hl 0 rfl) ?_
        refine lv_bipush (v := 61) hx hb dX1_readCommand_233 (by decide) ?_
        refine zcV (As := [.int 61]) (rest := []) [0, 1, 2] 0 hg.1.1 ⟨hx, hb, hml, hown, hts⟩ (c_X1_skip hg l D cy ic oa fa sa kc ((he + 1) + zdN bx nn 1 (he + 1)) o8 b8 ml nn bx mm 61 (by have := zdN_le bx nn 1 (he + 1); have := zmH_le bx nn ((he + 1) + zdN bx nn 1 (he + 1)) false 61; first | assumption | decide | omega) (by have := zdN_le bx nn 1 (he + 1); have := zmH_le bx nn ((he + 1) + zdN bx nn 1 (he + 1)) false 61; first | assumption | decide | omega) (by have := zdN_le bx nn 1 (he + 1); have := zmH_le bx nn ((he + 1) + zdN bx nn 1 (he + 1)) false 61; first | assumption | decide | omega) (by have := zdN_le bx nn 1 (he + 1); have := zmH_le bx nn ((he + 1) + zdN bx nn 1 (he + 1)) false 61; first | assumption | decide | omega) (by have := zdN_le bx nn 1 (he + 1); have := zmH_le bx nn ((he + 1) + zdN bx nn 1 (he + 1)) false 61; first | assumption | decide | omega)) (cwV 1 hts gX1_readCommand_X1_skip rfl rfl rfl (by decide +kernel) ⟨Nat.le_of_ble_eq_true rfl, Nat.le_of_ble_eq_true rfl⟩) hG hK hP hD hS hA rfl rfl (Eq.trans (b := [ic, o8, b8]) rfl rfl) rfl rfl rfl hl.1 rfl (Nat.le_of_ble_eq_true rfl) dX1_readCommand_235 ⟨Nat.zero_le _, Nat.zero_le _⟩ (fun H locs hP hD hS => ?_)
        have hP : va_P D vwCl [(ic, .inr (5, [.ref o8, .ref oa, .ref fa, .ref sa, .int (nI kc), .int (nI (zmH bx nn ((he + 1) + zdN bx nn 1 (he + 1)) false 61))])), (o8, .inr (1, [.ref b8, .int 0, .int ml, .int (nI nn)])), (b8, .inl (cy 1, mm, .inl bx)), (oa, .inl (cy 0, 60, .inl (upd oo k 121))), (fa, .inl (cy 0, 60, .inl (upd (upd fi k 0) k (zNu bx nn 1 (he + 1))))), (sa, .inl (cy 0, 60, .inl (upd se k 0)))] H := hP
        have hD : va_D A [(ic, .inr (5, [.ref o8, .ref oa, .ref fa, .ref sa, .int (nI kc), .int (nI (zmH bx nn ((he + 1) + zdN bx nn 1 (he + 1)) false 61))])), (o8, .inr (1, [.ref b8, .int 0, .int ml, .int (nI nn)])), (b8, .inl (cy 1, mm, .inl bx)), (oa, .inl (cy 0, 60, .inl (upd oo k 121))), (fa, .inl (cy 0, 60, .inl (upd (upd fi k 0) k (zNu bx nn 1 (he + 1))))), (sa, .inl (cy 0, 60, .inl (upd se k 0)))] := hD
        refine lv_if_eq (tgt := 254) hx hb dX1_readCommand_238 (by decide) (fun c_4 => ?_) (fun c_4 => ?_)
        · replace c_4 := zI0 c_4
          have hm : zmW bx nn ((he + 1) + zdN bx nn 1 (he + 1)) false 61 = true := by simpa using c_4
          refine lv_iconst (v := 0) hx hb dX1_readCommand_254 (by decide) ?_
          exact zzret hend hx hb hr hlk hK hP hD hS dX1_readCommand_255 rfl (by first | (simp [zbW, zmW, zI, h0]; done) | (simp [zbW, zmH, zI, h0, hm]; done) | (simp_all [zbW, zI, zmH]; done)) (by first | (simp only [zbH, zs2, zmH, zmW, h0, decide_true, decide_false, Bool.true_or, ↓reduceIte, upd_u]; done) | (simp [zbH, zs2, upd_u, zmH, hm, h0]; done) | (simp_all [zbH, zs2, upd_u, zmH]; done))
        · replace c_4 := zI1 c_4
          have hm : zmW bx nn ((he + 1) + zdN bx nn 1 (he + 1)) false 61 = false := by simpa using c_4
          refine lv_aload_n hx hb dX1_readCommand_241 rfl (lv_at hl 0 rfl) ?_
          refine lv_iload_n hx hb dX1_readCommand_242 rfl (lv_at hl 1 rfl) ?_
          refine lv_iconst (v := 2) hx hb dX1_readCommand_243 (by decide) ?_
          refine z_top (y := nI 2) (rfl) ?_
          refine zcV (As := [.int (nI k), .int (nI 2)]) (rest := []) [0, 1, 2, 5] 0 hg.1.1 ⟨hx, hb, hml, hown, hts⟩ (c_X1_readSecond hg l D cy ic oa fa sa kc (zmH bx nn ((he + 1) + zdN bx nn 1 (he + 1)) false 61) o8 b8 ml nn bx mm 2 k (upd se k 0) (by have := zdN_le bx nn 1 (he + 1); have := zmH_le bx nn ((he + 1) + zdN bx nn 1 (he + 1)) false 61; first | assumption | decide | omega) (by have := zdN_le bx nn 1 (he + 1); have := zmH_le bx nn ((he + 1) + zdN bx nn 1 (he + 1)) false 61; first | assumption | decide | omega) (by have := zdN_le bx nn 1 (he + 1); have := zmH_le bx nn ((he + 1) + zdN bx nn 1 (he + 1)) false 61; first | assumption | decide | omega) (by have := zdN_le bx nn 1 (he + 1); have := zmH_le bx nn ((he + 1) + zdN bx nn 1 (he + 1)) false 61; first | assumption | decide | omega) (by have := zdN_le bx nn 1 (he + 1); have := zmH_le bx nn ((he + 1) + zdN bx nn 1 (he + 1)) false 61; first | assumption | decide | omega) (by have := zdN_le bx nn 1 (he + 1); have := zmH_le bx nn ((he + 1) + zdN bx nn 1 (he + 1)) false 61; first | assumption | decide | omega) (by have := zdN_le bx nn 1 (he + 1); have := zmH_le bx nn ((he + 1) + zdN bx nn 1 (he + 1)) false 61; first | assumption | decide | omega) (by have := zdN_le bx nn 1 (he + 1); have := zmH_le bx nn ((he + 1) + zdN bx nn 1 (he + 1)) false 61; first | assumption | decide | omega)) (cwV 2 hts gX1_readCommand_X1_readSecond rfl rfl rfl (by decide +kernel) ⟨Nat.le_of_ble_eq_true rfl, Nat.le_of_ble_eq_true rfl⟩) hG hK hP hD hS hA rfl rfl (Eq.trans (b := [ic, o8, b8, sa]) rfl rfl) rfl rfl rfl hl.1 rfl (Nat.le_of_ble_eq_true rfl) dX1_readCommand_244 ⟨Nat.zero_le _, Nat.zero_le _⟩ (fun H locs hP hD hS => ?_)
          have hP : va_P D vwCl [(ic, .inr (5, [.ref o8, .ref oa, .ref fa, .ref sa, .int (nI kc), .int (nI ((zmH bx nn ((he + 1) + zdN bx nn 1 (he + 1)) false 61) + zdN bx nn 2 (zmH bx nn ((he + 1) + zdN bx nn 1 (he + 1)) false 61)))])), (o8, .inr (1, [.ref b8, .int 0, .int ml, .int (nI nn)])), (b8, .inl (cy 1, mm, .inl bx)), (oa, .inl (cy 0, 60, .inl (upd oo k 121))), (fa, .inl (cy 0, 60, .inl (upd (upd fi k 0) k (zNu bx nn 1 (he + 1))))), (sa, .inl (cy 0, 60, .inl (upd (upd se k 0) k (zNu bx nn 2 (zmH bx nn ((he + 1) + zdN bx nn 1 (he + 1)) false 61)))))] H := hP
          have hD : va_D A [(ic, .inr (5, [.ref o8, .ref oa, .ref fa, .ref sa, .int (nI kc), .int (nI ((zmH bx nn ((he + 1) + zdN bx nn 1 (he + 1)) false 61) + zdN bx nn 2 (zmH bx nn ((he + 1) + zdN bx nn 1 (he + 1)) false 61)))])), (o8, .inr (1, [.ref b8, .int 0, .int ml, .int (nI nn)])), (b8, .inl (cy 1, mm, .inl bx)), (oa, .inl (cy 0, 60, .inl (upd oo k 121))), (fa, .inl (cy 0, 60, .inl (upd (upd fi k 0) k (zNu bx nn 1 (he + 1))))), (sa, .inl (cy 0, 60, .inl (upd (upd se k 0) k (zNu bx nn 2 (zmH bx nn ((he + 1) + zdN bx nn 1 (he + 1)) false 61)))))] := hD
          refine lv_if_eq (tgt := 254) hx hb dX1_readCommand_247 (by decide) (fun c_5 => ?_) (fun c_5 => ?_)
          · replace c_5 := zI0 c_5
            refine lv_iconst (v := 0) hx hb dX1_readCommand_254 (by decide) ?_
            exact zzret hend hx hb hr hlk hK hP hD hS dX1_readCommand_255 rfl (by first | (simp [zbW, zmW, zI, h0]; done) | (simp [zbW, zmH, zI, h0, hm]; done) | (simp_all [zbW, zI, zmH]; done)) (by first | (simp only [zbH, zs2, zmH, zmW, h0, decide_true, decide_false, Bool.true_or, ↓reduceIte, upd_u]; done) | (simp [zbH, zs2, upd_u, zmH, hm, h0]; done) | (simp_all [zbH, zs2, upd_u, zmH]; done))
          · replace c_5 := zI1 c_5
            refine lv_iconst (v := 1) hx hb dX1_readCommand_250 (by decide) ?_
            refine lv_goto (tgt := 255) hx hb dX1_readCommand_251 (by decide) ?_
            exact zzret hend hx hb hr hlk hK hP hD hS dX1_readCommand_255 rfl (by first | (simp [zbW, zmW, zI, h0]; done) | (simp [zbW, zmH, zI, h0, hm]; done) | (simp_all [zbW, zI, zmH]; done)) (by first | (simp only [zbH, zs2, zmH, zmW, h0, decide_true, decide_false, Bool.true_or, ↓reduceIte, upd_u]; done) | (simp [zbH, zs2, upd_u, zmH, hm, h0]; done) | (simp_all [zbH, zs2, upd_u, zmH]; done))
    · exact absurd c_2 (by decide)

abbrev rmX1_readCommand_r102 : Room := { frames := 7, cells := 0, slots := 0, locals := 156 }
set_option maxHeartbeats 4000000 in
set_option maxRecDepth 100000 in
theorem c_X1_readCommand_r102 {G : zG} (hg : zGJ G) (l : Launch) (D : va_G) (cy : Nat → ClassId) (ic : Nat) (oa : Nat) (fa : Nat) (sa : Nat) (kc : Nat) (he : Nat) (o8 : Nat) (b8 : Nat) (ml : Int32) (nn : Nat) (bx : Nat → Int32) (mm : Nat) (ak : Nat) (av : Nat) (oo : Nat → Int32) (fi : Nat → Int32) (se : Nat → Int32) (k : Nat) (hhe : he ≤ 200) (hnm : nn ≤ mm) (hmm : mm ≤ 100) (hch : ∀ j, j < nn → zch (bx j)) (hgl : ∀ (A : Nat → Prop) (U : State), G A U → zLit ak av A U) (hk : k < 60) (hhe6 : he ≤ 60) (hc : zqs bx nn he = 102) : zM G D vwCl (zT cy) l yX1_readCommand wsX1_readCommand rmX1_readCommand_r102 [.ref ic, .int (nI k)] [(ic, .inr (5, [.ref o8, .ref oa, .ref fa, .ref sa, .int (nI kc), .int (nI he)])), (o8, .inr (1, [.ref b8, .int 0, .int ml, .int (nI nn)])), (b8, .inl (cy 1, mm, .inl bx)), (oa, .inl (cy 0, 60, .inl oo)), (fa, .inl (cy 0, 60, .inl fi)), (sa, .inl (cy 0, 60, .inl se))] (some (.int (zI (!(decide (zdN bx nn 1 (he + 1) = 0)))))) [(ic, .inr (5, [.ref o8, .ref oa, .ref fa, .ref sa, .int (nI kc), .int (nI ((he + 1) + zdN bx nn 1 (he + 1)))])), (o8, .inr (1, [.ref b8, .int 0, .int ml, .int (nI nn)])), (b8, .inl (cy 1, mm, .inl bx)), (oa, .inl (cy 0, 60, .inl (upd oo k 102))), (fa, .inl (cy 0, 60, .inl (upd fi k (zNu bx nn 1 (he + 1))))), (sa, .inl (cy 0, 60, .inl (upd se k (0))))] := by
  refine zM_of (cc := cX1_readCommand) (maxL := 2) (ret := (some .boolean)) (by decide) rfl (Nat.le_of_ble_eq_true rfl) ?_
  intro p e s m below meth c A Q hend hx hb hml hr hts hown hlk hG hK hP hD hA hS ls hl
  have hown : s.vm.findClass RX1 = some m.cls := hown
  have in_RX1 : ∀ w ∈ u_ws RX1 TX1 6, w ∈ wsX1_readCommand := by decide +kernel
  have hl : lv_has ls 2 [(0, .ref ic), (1, .int (nI k))] := hl
  have hlt : he < nn := zqs_lt hc (by decide)
  have hb0 : bx he = 102 := by have h9 := hc; rw [zqs, if_pos hlt] at h9; exact h9
  refine lv_aload_n hx hb dX1_readCommand_0 rfl (lv_at hl 0 rfl) ?_
  refine va_get (D := D) (ci := 5) (v := .int (nI he)) (C := RX1) (T := TX1) (N := 6) hx hb hts in_RX1 hown hK hP 0 rfl rfl 5 (by decide) (hts _ (List.mem_of_getElem? (i := 1) rfl)) (fun _ h9 => h9) rfl dX1_readCommand_1 ?_
  refine lv_aload_n hx hb dX1_readCommand_4 rfl (lv_at hl 0 rfl) ?_
  refine va_get (D := D) (ci := 5) (v := .ref o8) (C := RX1) (T := TX1) (N := 6) hx hb hts in_RX1 hown hK hP 0 rfl rfl 0 (by decide) (hts _ (List.mem_of_getElem? (i := 2) rfl)) (fun _ h9 => h9) rfl dX1_readCommand_5 ?_
  refine zcV (As := []) (rest := [.int (nI he)]) [1] 1 hg.1.1 ⟨hx, hb, hml, hown, hts⟩ (c_J4_length_8abf5 hg.1 l D cy o8 b8 ml nn) (cwV 0 hts gX1_readCommand_J4_length_8abf5 rfl rfl rfl (by decide +kernel) ⟨Nat.le_of_ble_eq_true rfl, Nat.le_of_ble_eq_true rfl⟩) hG hK hP hD hS hA rfl rfl rfl rfl rfl rfl hl.1 rfl (Nat.le_of_ble_eq_true rfl) dX1_readCommand_8 ⟨Nat.zero_le _, Nat.zero_le _⟩ (fun H locs hP hD hS => ?_)
  have hP : va_P D vwCl [(ic, .inr (5, [.ref o8, .ref oa, .ref fa, .ref sa, .int (nI kc), .int (nI he)])), (o8, .inr (1, [.ref b8, .int 0, .int ml, .int (nI nn)])), (b8, .inl (cy 1, mm, .inl bx)), (oa, .inl (cy 0, 60, .inl oo)), (fa, .inl (cy 0, 60, .inl fi)), (sa, .inl (cy 0, 60, .inl se))] H := hP
  have hD : va_D A [(ic, .inr (5, [.ref o8, .ref oa, .ref fa, .ref sa, .int (nI kc), .int (nI he)])), (o8, .inr (1, [.ref b8, .int 0, .int ml, .int (nI nn)])), (b8, .inl (cy 1, mm, .inl bx)), (oa, .inl (cy 0, 60, .inl oo)), (fa, .inl (cy 0, 60, .inl fi)), (sa, .inl (cy 0, 60, .inl se))] := hD
  refine lv_icmp_ge (tgt := 33) hx hb dX1_readCommand_11 (by decide) (fun c_1 => ?_) (fun c_1 => ?_)
  · exact absurd ((nI_leI (by omega) (by omega)).mp c_1) (Nat.not_le.mpr hlt)
  · refine va_ldcS hx hb hown (hgl A s hG).1 dX1_readCommand_14 ?_
    refine lv_aload_n hx hb dX1_readCommand_16 rfl (lv_at hl 0 rfl) ?_
    refine va_get (D := D) (ci := 5) (v := .ref o8) (C := RX1) (T := TX1) (N := 6) hx hb hts in_RX1 hown hK hP 0 rfl rfl 0 (by decide) (hts _ (List.mem_of_getElem? (i := 2) rfl)) (fun _ h9 => h9) rfl dX1_readCommand_17 ?_
    refine lv_aload_n hx hb dX1_readCommand_20 rfl (lv_at hl 0 rfl) ?_
    refine va_get (D := D) (ci := 5) (v := .int (nI he)) (C := RX1) (T := TX1) (N := 6) hx hb hts in_RX1 hown hK hP 0 rfl rfl 5 (by decide) (hts _ (List.mem_of_getElem? (i := 1) rfl)) (fun _ h9 => h9) rfl dX1_readCommand_21 ?_
    refine zcV (As := [.int (nI he)]) (rest := [.ref ak]) [1, 2] 1 hg.1.1 ⟨hx, hb, hml, hown, hts⟩ (c_J4_charAt_5068e hg l D cy o8 b8 ml nn bx mm he (by first | assumption | omega) (by first | assumption | omega) (by first | assumption | omega) (by first | assumption | omega)) (cwV 1 hts gX1_readCommand_J4_charAt_5068e rfl rfl rfl (by decide +kernel) ⟨Nat.le_of_ble_eq_true rfl, Nat.le_of_ble_eq_true rfl⟩) hG hK hP hD hS hA rfl rfl rfl rfl rfl rfl hl.1 rfl (Nat.le_of_ble_eq_true rfl) dX1_readCommand_24 ⟨Nat.zero_le _, Nat.zero_le _⟩ (fun H locs hP hD hS => ?_)
    have hP : va_P D vwCl [(ic, .inr (5, [.ref o8, .ref oa, .ref fa, .ref sa, .int (nI kc), .int (nI he)])), (o8, .inr (1, [.ref b8, .int 0, .int ml, .int (nI nn)])), (b8, .inl (cy 1, mm, .inl bx)), (oa, .inl (cy 0, 60, .inl oo)), (fa, .inl (cy 0, 60, .inl fi)), (sa, .inl (cy 0, 60, .inl se))] H := hP
    have hD : va_D A [(ic, .inr (5, [.ref o8, .ref oa, .ref fa, .ref sa, .int (nI kc), .int (nI he)])), (o8, .inr (1, [.ref b8, .int 0, .int ml, .int (nI nn)])), (b8, .inl (cy 1, mm, .inl bx)), (oa, .inl (cy 0, 60, .inl oo)), (fa, .inl (cy 0, 60, .inl fi)), (sa, .inl (cy 0, 60, .inl se))] := hD
    refine z_top (y := 102) (hb0) ?_
    refine zcVK (C := RJ0) (As := [.int 102]) (rest := []) [] hg.1.1 ⟨hx, hb, hml, hown, hts⟩ (c_J0_indexOf_0f7a4 hg l D cy ak av 102 (by first | assumption | omega) (by decide) (by decide) (by decide)) (cwV 1 hts gX1_readCommand_J0_indexOf_0f7a4 rfl rfl rfl (by decide +kernel) ⟨Nat.le_of_ble_eq_true rfl, Nat.le_of_ble_eq_true rfl⟩) (hgl A s hG).2.1 hG hK hP hD hS hA rfl rfl rfl  rfl hl.1 rfl (Nat.le_of_ble_eq_true rfl) dX1_readCommand_27 ⟨Nat.zero_le _, Nat.zero_le _⟩ (fun H locs hP hD hS => ?_)
    have hP : va_P D vwCl [(ic, .inr (5, [.ref o8, .ref oa, .ref fa, .ref sa, .int (nI kc), .int (nI he)])), (o8, .inr (1, [.ref b8, .int 0, .int ml, .int (nI nn)])), (b8, .inl (cy 1, mm, .inl bx)), (oa, .inl (cy 0, 60, .inl oo)), (fa, .inl (cy 0, 60, .inl fi)), (sa, .inl (cy 0, 60, .inl se))] H := hP
    have hD : va_D A [(ic, .inr (5, [.ref o8, .ref oa, .ref fa, .ref sa, .int (nI kc), .int (nI he)])), (o8, .inr (1, [.ref b8, .int 0, .int ml, .int (nI nn)])), (b8, .inl (cy 1, mm, .inl bx)), (oa, .inl (cy 0, 60, .inl oo)), (fa, .inl (cy 0, 60, .inl fi)), (sa, .inl (cy 0, 60, .inl se))] := hD
    refine z_top (y := 9) (by decide) ?_
    refine lv_if_ge (tgt := 35) hx hb dX1_readCommand_30 (by decide) (fun c_2 => ?_) (fun c_2 => ?_)
    · refine lv_aload_n hx hb dX1_readCommand_35 rfl (lv_at hl 0 rfl) ?_
      refine va_get (D := D) (ci := 5) (v := .ref oa) (C := RX1) (T := TX1) (N := 6) hx hb hts in_RX1 hown hK hP 0 rfl rfl 1 (by decide) (hts _ (List.mem_of_getElem? (i := 3) rfl)) (fun _ h9 => h9) rfl dX1_readCommand_36 ?_
      refine lv_iload_n hx hb dX1_readCommand_39 rfl (lv_at hl 1 rfl) ?_
      refine lv_aload_n hx hb dX1_readCommand_40 rfl (lv_at hl 0 rfl) ?_
      refine va_get (D := D) (ci := 5) (v := .ref o8) (C := RX1) (T := TX1) (N := 6) hx hb hts in_RX1 hown hK hP 0 rfl rfl 0 (by decide) (hts _ (List.mem_of_getElem? (i := 2) rfl)) (fun _ h9 => h9) rfl dX1_readCommand_41 ?_
      refine lv_aload_n hx hb dX1_readCommand_44 rfl (lv_at hl 0 rfl) ?_
      refine va_get (D := D) (ci := 5) (v := .int (nI he)) (C := RX1) (T := TX1) (N := 6) hx hb hts in_RX1 hown hK hP 0 rfl rfl 5 (by decide) (hts _ (List.mem_of_getElem? (i := 1) rfl)) (fun _ h9 => h9) rfl dX1_readCommand_45 ?_
      refine zcV (As := [.int (nI he)]) (rest := [.int (nI k), .ref oa]) [1, 2] 1 hg.1.1 ⟨hx, hb, hml, hown, hts⟩ (c_J4_charAt_5068e hg l D cy o8 b8 ml nn bx mm he (by first | assumption | omega) (by first | assumption | omega) (by first | assumption | omega) (by first | assumption | omega)) (cwV 1 hts gX1_readCommand_J4_charAt_5068e rfl rfl rfl (by decide +kernel) ⟨Nat.le_of_ble_eq_true rfl, Nat.le_of_ble_eq_true rfl⟩) hG hK hP hD hS hA rfl rfl rfl rfl rfl rfl hl.1 rfl (Nat.le_of_ble_eq_true rfl) dX1_readCommand_48 ⟨Nat.zero_le _, Nat.zero_le _⟩ (fun H locs hP hD hS => ?_)
      have hP : va_P D vwCl [(ic, .inr (5, [.ref o8, .ref oa, .ref fa, .ref sa, .int (nI kc), .int (nI he)])), (o8, .inr (1, [.ref b8, .int 0, .int ml, .int (nI nn)])), (b8, .inl (cy 1, mm, .inl bx)), (oa, .inl (cy 0, 60, .inl oo)), (fa, .inl (cy 0, 60, .inl fi)), (sa, .inl (cy 0, 60, .inl se))] H := hP
      have hD : va_D A [(ic, .inr (5, [.ref o8, .ref oa, .ref fa, .ref sa, .int (nI kc), .int (nI he)])), (o8, .inr (1, [.ref b8, .int 0, .int ml, .int (nI nn)])), (b8, .inl (cy 1, mm, .inl bx)), (oa, .inl (cy 0, 60, .inl oo)), (fa, .inl (cy 0, 60, .inl fi)), (sa, .inl (cy 0, 60, .inl se))] := hD
      refine z_top (y := 102) (hb0) ?_
      refine ziast 3 0 k hx hb hK hP hD hS rfl rfl (by omega) (z_lt rfl) dX1_readCommand_51 (fun H locs hP hD hS => ?_)
      have hP : va_P D vwCl [(ic, .inr (5, [.ref o8, .ref oa, .ref fa, .ref sa, .int (nI kc), .int (nI he)])), (o8, .inr (1, [.ref b8, .int 0, .int ml, .int (nI nn)])), (b8, .inl (cy 1, mm, .inl bx)), (oa, .inl (cy 0, 60, .inl (upd oo k 102))), (fa, .inl (cy 0, 60, .inl fi)), (sa, .inl (cy 0, 60, .inl se))] H := hP
      have hD : va_D A [(ic, .inr (5, [.ref o8, .ref oa, .ref fa, .ref sa, .int (nI kc), .int (nI he)])), (o8, .inr (1, [.ref b8, .int 0, .int ml, .int (nI nn)])), (b8, .inl (cy 1, mm, .inl bx)), (oa, .inl (cy 0, 60, .inl (upd oo k 102))), (fa, .inl (cy 0, 60, .inl fi)), (sa, .inl (cy 0, 60, .inl se))] := hD
      refine lv_aload_n hx hb dX1_readCommand_52 rfl (lv_at hl 0 rfl) ?_
      refine va_get (D := D) (ci := 5) (v := .ref fa) (C := RX1) (T := TX1) (N := 6) hx hb hts in_RX1 hown hK hP 0 rfl rfl 2 (by decide) (hts _ (List.mem_of_getElem? (i := 4) rfl)) (fun _ h9 => h9) rfl dX1_readCommand_53 ?_
      refine lv_iload_n hx hb dX1_readCommand_56 rfl (lv_at hl 1 rfl) ?_
      refine lv_iconst (v := 0) hx hb dX1_readCommand_57 (by decide) ?_
      refine ziast 4 0 k hx hb hK hP hD hS rfl rfl (by omega) (z_lt rfl) dX1_readCommand_58 (fun H locs hP hD hS => ?_)
      have hP : va_P D vwCl [(ic, .inr (5, [.ref o8, .ref oa, .ref fa, .ref sa, .int (nI kc), .int (nI he)])), (o8, .inr (1, [.ref b8, .int 0, .int ml, .int (nI nn)])), (b8, .inl (cy 1, mm, .inl bx)), (oa, .inl (cy 0, 60, .inl (upd oo k 102))), (fa, .inl (cy 0, 60, .inl (upd fi k 0))), (sa, .inl (cy 0, 60, .inl se))] H := hP
      have hD : va_D A [(ic, .inr (5, [.ref o8, .ref oa, .ref fa, .ref sa, .int (nI kc), .int (nI he)])), (o8, .inr (1, [.ref b8, .int 0, .int ml, .int (nI nn)])), (b8, .inl (cy 1, mm, .inl bx)), (oa, .inl (cy 0, 60, .inl (upd oo k 102))), (fa, .inl (cy 0, 60, .inl (upd fi k 0))), (sa, .inl (cy 0, 60, .inl se))] := hD
      refine lv_aload_n hx hb dX1_readCommand_59 rfl (lv_at hl 0 rfl) ?_
      refine va_get (D := D) (ci := 5) (v := .ref sa) (C := RX1) (T := TX1) (N := 6) hx hb hts in_RX1 hown hK hP 0 rfl rfl 3 (by decide) (hts _ (List.mem_of_getElem? (i := 5) rfl)) (fun _ h9 => h9) rfl dX1_readCommand_60 ?_
      refine lv_iload_n hx hb dX1_readCommand_63 rfl (lv_at hl 1 rfl) ?_
      refine lv_iconst (v := 0) hx hb dX1_readCommand_64 (by decide) ?_
      refine ziast 5 0 k hx hb hK hP hD hS rfl rfl (by omega) (z_lt rfl) dX1_readCommand_65 (fun H locs hP hD hS => ?_)
      have hP : va_P D vwCl [(ic, .inr (5, [.ref o8, .ref oa, .ref fa, .ref sa, .int (nI kc), .int (nI he)])), (o8, .inr (1, [.ref b8, .int 0, .int ml, .int (nI nn)])), (b8, .inl (cy 1, mm, .inl bx)), (oa, .inl (cy 0, 60, .inl (upd oo k 102))), (fa, .inl (cy 0, 60, .inl (upd fi k 0))), (sa, .inl (cy 0, 60, .inl (upd se k 0)))] H := hP
      have hD : va_D A [(ic, .inr (5, [.ref o8, .ref oa, .ref fa, .ref sa, .int (nI kc), .int (nI he)])), (o8, .inr (1, [.ref b8, .int 0, .int ml, .int (nI nn)])), (b8, .inl (cy 1, mm, .inl bx)), (oa, .inl (cy 0, 60, .inl (upd oo k 102))), (fa, .inl (cy 0, 60, .inl (upd fi k 0))), (sa, .inl (cy 0, 60, .inl (upd se k 0)))] := hD
      refine lv_aload_n hx hb dX1_readCommand_66 rfl (lv_at hl 0 rfl) ?_
      refine lv_dup hx hb dX1_readCommand_67 rfl ?_
      refine va_get (D := D) (ci := 5) (v := .int (nI he)) (C := RX1) (T := TX1) (N := 6) hx hb hts in_RX1 hown hK hP 0 rfl rfl 5 (by decide) (hts _ (List.mem_of_getElem? (i := 1) rfl)) (fun _ h9 => h9) rfl dX1_readCommand_68 ?_
      refine lv_iconst (v := 1) hx hb dX1_readCommand_71 (by decide) ?_
      refine lv_iadd hx hb dX1_readCommand_72 ?_
      refine z_top (y := nI (he + 1)) (nI_add he 1) ?_
      refine va_put (D := D) (ci := 5) (v := .int (nI (he + 1))) (ty := .int) (C := RX1) (T := TX1) (N := 6) hx hb hts in_RX1 tyX1 tyX1_ok nmX1 hown hK hP hD hS 0 rfl rfl 5 (by decide) (hts _ (List.mem_of_getElem? (i := 1) rfl)) (fun _ h9 => h9) rfl (by decide +kernel) rfl rfl (Nat.le_of_ble_eq_true rfl) dX1_readCommand_73 (fun H locs hP hD hS => ?_)
      have hP : va_P D vwCl [(ic, .inr (5, [.ref o8, .ref oa, .ref fa, .ref sa, .int (nI kc), .int (nI (he + 1))])), (o8, .inr (1, [.ref b8, .int 0, .int ml, .int (nI nn)])), (b8, .inl (cy 1, mm, .inl bx)), (oa, .inl (cy 0, 60, .inl (upd oo k 102))), (fa, .inl (cy 0, 60, .inl (upd fi k 0))), (sa, .inl (cy 0, 60, .inl (upd se k 0)))] H := hP
      have hD : va_D A [(ic, .inr (5, [.ref o8, .ref oa, .ref fa, .ref sa, .int (nI kc), .int (nI (he + 1))])), (o8, .inr (1, [.ref b8, .int 0, .int ml, .int (nI nn)])), (b8, .inl (cy 1, mm, .inl bx)), (oa, .inl (cy 0, 60, .inl (upd oo k 102))), (fa, .inl (cy 0, 60, .inl (upd fi k 0))), (sa, .inl (cy 0, 60, .inl (upd se k 0)))] := hD
      refine lv_aload_n hx hb dX1_readCommand_76 rfl (lv_at hl 0 rfl) ?_
      refine va_get (D := D) (ci := 5) (v := .ref oa) (C := RX1) (T := TX1) (N := 6) hx hb hts in_RX1 hown hK hP 0 rfl rfl 1 (by decide) (hts _ (List.mem_of_getElem? (i := 3) rfl)) (fun _ h9 => h9) rfl dX1_readCommand_77 ?_
      refine lv_iload_n hx hb dX1_readCommand_80 rfl (lv_at hl 1 rfl) ?_
      refine ziald 3 0 k hx hb hK hP rfl rfl (by omega) (z_lt rfl) dX1_readCommand_81 ?_
      refine z_top (y := 102) (upd_s) ?_
      refine lv_tableIn (off := 174) (tgt := 256) hx hb dX1_readCommand_82 (by decide) (by decide) (by decide) (by decide) ?_
      refine lv_aload_n hx hb dX1_readCommand_256 rfl (lv_at hl 0 rfl) ?_
      refine lv_iload_n hx hb dX1_readCommand_257 rfl (lv_at hl 1 rfl) ?_
      refine lv_iconst (v := 1) hx hb dX1_readCommand_258 (by decide) ?_
      refine z_top (y := nI 1) (rfl) ?_
      refine zcV (As := [.int (nI k), .int (nI 1)]) (rest := []) [0, 1, 2, 4] 0 hg.1.1 ⟨hx, hb, hml, hown, hts⟩ (c_X1_readFirst hg l D cy ic oa fa sa kc (he + 1) o8 b8 ml nn bx mm 1 k (upd fi k 0) (by first | assumption | decide | omega) (by first | assumption | decide | omega) (by first | assumption | decide | omega) (by first | assumption | decide | omega) (by first | assumption | decide | omega) (by first | assumption | decide | omega) (by first | assumption | decide | omega) (by first | assumption | decide | omega)) (cwV 2 hts gX1_readCommand_X1_readFirst rfl rfl rfl (by decide +kernel) ⟨Nat.le_of_ble_eq_true rfl, Nat.le_of_ble_eq_true rfl⟩) hG hK hP hD hS hA rfl rfl (Eq.trans (b := [ic, o8, b8, fa]) rfl rfl) rfl rfl rfl hl.1 rfl (Nat.le_of_ble_eq_true rfl) dX1_readCommand_259 ⟨Nat.zero_le _, Nat.zero_le _⟩ (fun H locs hP hD hS => ?_)
      have hP : va_P D vwCl [(ic, .inr (5, [.ref o8, .ref oa, .ref fa, .ref sa, .int (nI kc), .int (nI ((he + 1) + zdN bx nn 1 (he + 1)))])), (o8, .inr (1, [.ref b8, .int 0, .int ml, .int (nI nn)])), (b8, .inl (cy 1, mm, .inl bx)), (oa, .inl (cy 0, 60, .inl (upd oo k 102))), (fa, .inl (cy 0, 60, .inl (upd (upd fi k 0) k (zNu bx nn 1 (he + 1))))), (sa, .inl (cy 0, 60, .inl (upd se k 0)))] H := hP
      have hD : va_D A [(ic, .inr (5, [.ref o8, .ref oa, .ref fa, .ref sa, .int (nI kc), .int (nI ((he + 1) + zdN bx nn 1 (he + 1)))])), (o8, .inr (1, [.ref b8, .int 0, .int ml, .int (nI nn)])), (b8, .inl (cy 1, mm, .inl bx)), (oa, .inl (cy 0, 60, .inl (upd oo k 102))), (fa, .inl (cy 0, 60, .inl (upd (upd fi k 0) k (zNu bx nn 1 (he + 1))))), (sa, .inl (cy 0, 60, .inl (upd se k 0)))] := hD
      exact zzret hend hx hb hr hlk hK hP hD hS dX1_readCommand_262 (zI_nar _) (by rfl) (by simp only [upd_u])
    · exact absurd c_2 (by decide)

abbrev rmX1_readCommand_r116 : Room := { frames := 7, cells := 0, slots := 0, locals := 156 }
set_option maxHeartbeats 4000000 in
set_option maxRecDepth 100000 in
theorem c_X1_readCommand_r116 {G : zG} (hg : zGJ G) (l : Launch) (D : va_G) (cy : Nat → ClassId) (ic : Nat) (oa : Nat) (fa : Nat) (sa : Nat) (kc : Nat) (he : Nat) (o8 : Nat) (b8 : Nat) (ml : Int32) (nn : Nat) (bx : Nat → Int32) (mm : Nat) (ak : Nat) (av : Nat) (oo : Nat → Int32) (fi : Nat → Int32) (se : Nat → Int32) (k : Nat) (hhe : he ≤ 200) (hnm : nn ≤ mm) (hmm : mm ≤ 100) (hch : ∀ j, j < nn → zch (bx j)) (hgl : ∀ (A : Nat → Prop) (U : State), G A U → zLit ak av A U) (hk : k < 60) (hhe6 : he ≤ 60) (hc : zqs bx nn he = 116) : zM G D vwCl (zT cy) l yX1_readCommand wsX1_readCommand rmX1_readCommand_r116 [.ref ic, .int (nI k)] [(ic, .inr (5, [.ref o8, .ref oa, .ref fa, .ref sa, .int (nI kc), .int (nI he)])), (o8, .inr (1, [.ref b8, .int 0, .int ml, .int (nI nn)])), (b8, .inl (cy 1, mm, .inl bx)), (oa, .inl (cy 0, 60, .inl oo)), (fa, .inl (cy 0, 60, .inl fi)), (sa, .inl (cy 0, 60, .inl se))] (some (.int (zI (!(decide (zdN bx nn 1 (he + 1) = 0)))))) [(ic, .inr (5, [.ref o8, .ref oa, .ref fa, .ref sa, .int (nI kc), .int (nI ((he + 1) + zdN bx nn 1 (he + 1)))])), (o8, .inr (1, [.ref b8, .int 0, .int ml, .int (nI nn)])), (b8, .inl (cy 1, mm, .inl bx)), (oa, .inl (cy 0, 60, .inl (upd oo k 116))), (fa, .inl (cy 0, 60, .inl (upd fi k (zNu bx nn 1 (he + 1))))), (sa, .inl (cy 0, 60, .inl (upd se k (0))))] := by
  refine zM_of (cc := cX1_readCommand) (maxL := 2) (ret := (some .boolean)) (by decide) rfl (Nat.le_of_ble_eq_true rfl) ?_
  intro p e s m below meth c A Q hend hx hb hml hr hts hown hlk hG hK hP hD hA hS ls hl
  have hown : s.vm.findClass RX1 = some m.cls := hown
  have in_RX1 : ∀ w ∈ u_ws RX1 TX1 6, w ∈ wsX1_readCommand := by decide +kernel
  have hl : lv_has ls 2 [(0, .ref ic), (1, .int (nI k))] := hl
  have hlt : he < nn := zqs_lt hc (by decide)
  have hb0 : bx he = 116 := by have h9 := hc; rw [zqs, if_pos hlt] at h9; exact h9
  refine lv_aload_n hx hb dX1_readCommand_0 rfl (lv_at hl 0 rfl) ?_
  refine va_get (D := D) (ci := 5) (v := .int (nI he)) (C := RX1) (T := TX1) (N := 6) hx hb hts in_RX1 hown hK hP 0 rfl rfl 5 (by decide) (hts _ (List.mem_of_getElem? (i := 1) rfl)) (fun _ h9 => h9) rfl dX1_readCommand_1 ?_
  refine lv_aload_n hx hb dX1_readCommand_4 rfl (lv_at hl 0 rfl) ?_
  refine va_get (D := D) (ci := 5) (v := .ref o8) (C := RX1) (T := TX1) (N := 6) hx hb hts in_RX1 hown hK hP 0 rfl rfl 0 (by decide) (hts _ (List.mem_of_getElem? (i := 2) rfl)) (fun _ h9 => h9) rfl dX1_readCommand_5 ?_
  refine zcV (As := []) (rest := [.int (nI he)]) [1] 1 hg.1.1 ⟨hx, hb, hml, hown, hts⟩ (c_J4_length_8abf5 hg.1 l D cy o8 b8 ml nn) (cwV 0 hts gX1_readCommand_J4_length_8abf5 rfl rfl rfl (by decide +kernel) ⟨Nat.le_of_ble_eq_true rfl, Nat.le_of_ble_eq_true rfl⟩) hG hK hP hD hS hA rfl rfl rfl rfl rfl rfl hl.1 rfl (Nat.le_of_ble_eq_true rfl) dX1_readCommand_8 ⟨Nat.zero_le _, Nat.zero_le _⟩ (fun H locs hP hD hS => ?_)
  have hP : va_P D vwCl [(ic, .inr (5, [.ref o8, .ref oa, .ref fa, .ref sa, .int (nI kc), .int (nI he)])), (o8, .inr (1, [.ref b8, .int 0, .int ml, .int (nI nn)])), (b8, .inl (cy 1, mm, .inl bx)), (oa, .inl (cy 0, 60, .inl oo)), (fa, .inl (cy 0, 60, .inl fi)), (sa, .inl (cy 0, 60, .inl se))] H := hP
  have hD : va_D A [(ic, .inr (5, [.ref o8, .ref oa, .ref fa, .ref sa, .int (nI kc), .int (nI he)])), (o8, .inr (1, [.ref b8, .int 0, .int ml, .int (nI nn)])), (b8, .inl (cy 1, mm, .inl bx)), (oa, .inl (cy 0, 60, .inl oo)), (fa, .inl (cy 0, 60, .inl fi)), (sa, .inl (cy 0, 60, .inl se))] := hD
  refine lv_icmp_ge (tgt := 33) hx hb dX1_readCommand_11 (by decide) (fun c_1 => ?_) (fun c_1 => ?_)
  · exact absurd ((nI_leI (by omega) (by omega)).mp c_1) (Nat.not_le.mpr hlt)
  · refine va_ldcS hx hb hown (hgl A s hG).1 dX1_readCommand_14 ?_
    refine lv_aload_n hx hb dX1_readCommand_16 rfl (lv_at hl 0 rfl) ?_
    refine va_get (D := D) (ci := 5) (v := .ref o8) (C := RX1) (T := TX1) (N := 6) hx hb hts in_RX1 hown hK hP 0 rfl rfl 0 (by decide) (hts _ (List.mem_of_getElem? (i := 2) rfl)) (fun _ h9 => h9) rfl dX1_readCommand_17 ?_
    refine lv_aload_n hx hb dX1_readCommand_20 rfl (lv_at hl 0 rfl) ?_
    refine va_get (D := D) (ci := 5) (v := .int (nI he)) (C := RX1) (T := TX1) (N := 6) hx hb hts in_RX1 hown hK hP 0 rfl rfl 5 (by decide) (hts _ (List.mem_of_getElem? (i := 1) rfl)) (fun _ h9 => h9) rfl dX1_readCommand_21 ?_
    refine zcV (As := [.int (nI he)]) (rest := [.ref ak]) [1, 2] 1 hg.1.1 ⟨hx, hb, hml, hown, hts⟩ (c_J4_charAt_5068e hg l D cy o8 b8 ml nn bx mm he (by first | assumption | omega) (by first | assumption | omega) (by first | assumption | omega) (by first | assumption | omega)) (cwV 1 hts gX1_readCommand_J4_charAt_5068e rfl rfl rfl (by decide +kernel) ⟨Nat.le_of_ble_eq_true rfl, Nat.le_of_ble_eq_true rfl⟩) hG hK hP hD hS hA rfl rfl rfl rfl rfl rfl hl.1 rfl (Nat.le_of_ble_eq_true rfl) dX1_readCommand_24 ⟨Nat.zero_le _, Nat.zero_le _⟩ (fun H locs hP hD hS => ?_)
    have hP : va_P D vwCl [(ic, .inr (5, [.ref o8, .ref oa, .ref fa, .ref sa, .int (nI kc), .int (nI he)])), (o8, .inr (1, [.ref b8, .int 0, .int ml, .int (nI nn)])), (b8, .inl (cy 1, mm, .inl bx)), (oa, .inl (cy 0, 60, .inl oo)), (fa, .inl (cy 0, 60, .inl fi)), (sa, .inl (cy 0, 60, .inl se))] H := hP
    have hD : va_D A [(ic, .inr (5, [.ref o8, .ref oa, .ref fa, .ref sa, .int (nI kc), .int (nI he)])), (o8, .inr (1, [.ref b8, .int 0, .int ml, .int (nI nn)])), (b8, .inl (cy 1, mm, .inl bx)), (oa, .inl (cy 0, 60, .inl oo)), (fa, .inl (cy 0, 60, .inl fi)), (sa, .inl (cy 0, 60, .inl se))] := hD
    refine z_top (y := 116) (hb0) ?_
    refine zcVK (C := RJ0) (As := [.int 116]) (rest := []) [] hg.1.1 ⟨hx, hb, hml, hown, hts⟩ (c_J0_indexOf_0f7a4 hg l D cy ak av 116 (by first | assumption | omega) (by decide) (by decide) (by decide)) (cwV 1 hts gX1_readCommand_J0_indexOf_0f7a4 rfl rfl rfl (by decide +kernel) ⟨Nat.le_of_ble_eq_true rfl, Nat.le_of_ble_eq_true rfl⟩) (hgl A s hG).2.1 hG hK hP hD hS hA rfl rfl rfl  rfl hl.1 rfl (Nat.le_of_ble_eq_true rfl) dX1_readCommand_27 ⟨Nat.zero_le _, Nat.zero_le _⟩ (fun H locs hP hD hS => ?_)
    have hP : va_P D vwCl [(ic, .inr (5, [.ref o8, .ref oa, .ref fa, .ref sa, .int (nI kc), .int (nI he)])), (o8, .inr (1, [.ref b8, .int 0, .int ml, .int (nI nn)])), (b8, .inl (cy 1, mm, .inl bx)), (oa, .inl (cy 0, 60, .inl oo)), (fa, .inl (cy 0, 60, .inl fi)), (sa, .inl (cy 0, 60, .inl se))] H := hP
    have hD : va_D A [(ic, .inr (5, [.ref o8, .ref oa, .ref fa, .ref sa, .int (nI kc), .int (nI he)])), (o8, .inr (1, [.ref b8, .int 0, .int ml, .int (nI nn)])), (b8, .inl (cy 1, mm, .inl bx)), (oa, .inl (cy 0, 60, .inl oo)), (fa, .inl (cy 0, 60, .inl fi)), (sa, .inl (cy 0, 60, .inl se))] := hD
    refine z_top (y := 10) (by decide) ?_
    refine lv_if_ge (tgt := 35) hx hb dX1_readCommand_30 (by decide) (fun c_2 => ?_) (fun c_2 => ?_)
    · refine lv_aload_n hx hb dX1_readCommand_35 rfl (lv_at hl 0 rfl) ?_
      refine va_get (D := D) (ci := 5) (v := .ref oa) (C := RX1) (T := TX1) (N := 6) hx hb hts in_RX1 hown hK hP 0 rfl rfl 1 (by decide) (hts _ (List.mem_of_getElem? (i := 3) rfl)) (fun _ h9 => h9) rfl dX1_readCommand_36 ?_
      refine lv_iload_n hx hb dX1_readCommand_39 rfl (lv_at hl 1 rfl) ?_
      refine lv_aload_n hx hb dX1_readCommand_40 rfl (lv_at hl 0 rfl) ?_
      refine va_get (D := D) (ci := 5) (v := .ref o8) (C := RX1) (T := TX1) (N := 6) hx hb hts in_RX1 hown hK hP 0 rfl rfl 0 (by decide) (hts _ (List.mem_of_getElem? (i := 2) rfl)) (fun _ h9 => h9) rfl dX1_readCommand_41 ?_
      refine lv_aload_n hx hb dX1_readCommand_44 rfl (lv_at hl 0 rfl) ?_
      refine va_get (D := D) (ci := 5) (v := .int (nI he)) (C := RX1) (T := TX1) (N := 6) hx hb hts in_RX1 hown hK hP 0 rfl rfl 5 (by decide) (hts _ (List.mem_of_getElem? (i := 1) rfl)) (fun _ h9 => h9) rfl dX1_readCommand_45 ?_
      refine zcV (As := [.int (nI he)]) (rest := [.int (nI k), .ref oa]) [1, 2] 1 hg.1.1 ⟨hx, hb, hml, hown, hts⟩ (c_J4_charAt_5068e hg l D cy o8 b8 ml nn bx mm he (by first | assumption | omega) (by first | assumption | omega) (by first | assumption | omega) (by first | assumption | omega)) (cwV 1 hts gX1_readCommand_J4_charAt_5068e rfl rfl rfl (by decide +kernel) ⟨Nat.le_of_ble_eq_true rfl, Nat.le_of_ble_eq_true rfl⟩) hG hK hP hD hS hA rfl rfl rfl rfl rfl rfl hl.1 rfl (Nat.le_of_ble_eq_true rfl) dX1_readCommand_48 ⟨Nat.zero_le _, Nat.zero_le _⟩ (fun H locs hP hD hS => ?_)
      have hP : va_P D vwCl [(ic, .inr (5, [.ref o8, .ref oa, .ref fa, .ref sa, .int (nI kc), .int (nI he)])), (o8, .inr (1, [.ref b8, .int 0, .int ml, .int (nI nn)])), (b8, .inl (cy 1, mm, .inl bx)), (oa, .inl (cy 0, 60, .inl oo)), (fa, .inl (cy 0, 60, .inl fi)), (sa, .inl (cy 0, 60, .inl se))] H := hP
      have hD : va_D A [(ic, .inr (5, [.ref o8, .ref oa, .ref fa, .ref sa, .int (nI kc), .int (nI he)])), (o8, .inr (1, [.ref b8, .int 0, .int ml, .int (nI nn)])), (b8, .inl (cy 1, mm, .inl bx)), (oa, .inl (cy 0, 60, .inl oo)), (fa, .inl (cy 0, 60, .inl fi)), (sa, .inl (cy 0, 60, .inl se))] := hD
      refine z_top (y := 116) (hb0) ?_
      refine ziast 3 0 k hx hb hK hP hD hS rfl rfl (by omega) (z_lt rfl) dX1_readCommand_51 (fun H locs hP hD hS => ?_)
      have hP : va_P D vwCl [(ic, .inr (5, [.ref o8, .ref oa, .ref fa, .ref sa, .int (nI kc), .int (nI he)])), (o8, .inr (1, [.ref b8, .int 0, .int ml, .int (nI nn)])), (b8, .inl (cy 1, mm, .inl bx)), (oa, .inl (cy 0, 60, .inl (upd oo k 116))), (fa, .inl (cy 0, 60, .inl fi)), (sa, .inl (cy 0, 60, .inl se))] H := hP
      have hD : va_D A [(ic, .inr (5, [.ref o8, .ref oa, .ref fa, .ref sa, .int (nI kc), .int (nI he)])), (o8, .inr (1, [.ref b8, .int 0, .int ml, .int (nI nn)])), (b8, .inl (cy 1, mm, .inl bx)), (oa, .inl (cy 0, 60, .inl (upd oo k 116))), (fa, .inl (cy 0, 60, .inl fi)), (sa, .inl (cy 0, 60, .inl se))] := hD
      refine lv_aload_n hx hb dX1_readCommand_52 rfl (lv_at hl 0 rfl) ?_
      refine va_get (D := D) (ci := 5) (v := .ref fa) (C := RX1) (T := TX1) (N := 6) hx hb hts in_RX1 hown hK hP 0 rfl rfl 2 (by decide) (hts _ (List.mem_of_getElem? (i := 4) rfl)) (fun _ h9 => h9) rfl dX1_readCommand_53 ?_
      refine lv_iload_n hx hb dX1_readCommand_56 rfl (lv_at hl 1 rfl) ?_
      refine lv_iconst (v := 0) hx hb dX1_readCommand_57 (by decide) ?_
      refine ziast 4 0 k hx hb hK hP hD hS rfl rfl (by omega) (z_lt rfl) dX1_readCommand_58 (fun H locs hP hD hS => ?_)
      have hP : va_P D vwCl [(ic, .inr (5, [.ref o8, .ref oa, .ref fa, .ref sa, .int (nI kc), .int (nI he)])), (o8, .inr (1, [.ref b8, .int 0, .int ml, .int (nI nn)])), (b8, .inl (cy 1, mm, .inl bx)), (oa, .inl (cy 0, 60, .inl (upd oo k 116))), (fa, .inl (cy 0, 60, .inl (upd fi k 0))), (sa, .inl (cy 0, 60, .inl se))] H := hP
      have hD : va_D A [(ic, .inr (5, [.ref o8, .ref oa, .ref fa, .ref sa, .int (nI kc), .int (nI he)])), (o8, .inr (1, [.ref b8, .int 0, .int ml, .int (nI nn)])), (b8, .inl (cy 1, mm, .inl bx)), (oa, .inl (cy 0, 60, .inl (upd oo k 116))), (fa, .inl (cy 0, 60, .inl (upd fi k 0))), (sa, .inl (cy 0, 60, .inl se))] := hD
      refine lv_aload_n hx hb dX1_readCommand_59 rfl (lv_at hl 0 rfl) ?_
      refine va_get (D := D) (ci := 5) (v := .ref sa) (C := RX1) (T := TX1) (N := 6) hx hb hts in_RX1 hown hK hP 0 rfl rfl 3 (by decide) (hts _ (List.mem_of_getElem? (i := 5) rfl)) (fun _ h9 => h9) rfl dX1_readCommand_60 ?_
      refine lv_iload_n hx hb dX1_readCommand_63 rfl (lv_at hl 1 rfl) ?_
      refine lv_iconst (v := 0) hx hb dX1_readCommand_64 (by decide) ?_
      refine ziast 5 0 k hx hb hK hP hD hS rfl rfl (by omega) (z_lt rfl) dX1_readCommand_65 (fun H locs hP hD hS => ?_)
      have hP : va_P D vwCl [(ic, .inr (5, [.ref o8, .ref oa, .ref fa, .ref sa, .int (nI kc), .int (nI he)])), (o8, .inr (1, [.ref b8, .int 0, .int ml, .int (nI nn)])), (b8, .inl (cy 1, mm, .inl bx)), (oa, .inl (cy 0, 60, .inl (upd oo k 116))), (fa, .inl (cy 0, 60, .inl (upd fi k 0))), (sa, .inl (cy 0, 60, .inl (upd se k 0)))] H := hP
      have hD : va_D A [(ic, .inr (5, [.ref o8, .ref oa, .ref fa, .ref sa, .int (nI kc), .int (nI he)])), (o8, .inr (1, [.ref b8, .int 0, .int ml, .int (nI nn)])), (b8, .inl (cy 1, mm, .inl bx)), (oa, .inl (cy 0, 60, .inl (upd oo k 116))), (fa, .inl (cy 0, 60, .inl (upd fi k 0))), (sa, .inl (cy 0, 60, .inl (upd se k 0)))] := hD
      refine lv_aload_n hx hb dX1_readCommand_66 rfl (lv_at hl 0 rfl) ?_
      refine lv_dup hx hb dX1_readCommand_67 rfl ?_
      refine va_get (D := D) (ci := 5) (v := .int (nI he)) (C := RX1) (T := TX1) (N := 6) hx hb hts in_RX1 hown hK hP 0 rfl rfl 5 (by decide) (hts _ (List.mem_of_getElem? (i := 1) rfl)) (fun _ h9 => h9) rfl dX1_readCommand_68 ?_
      refine lv_iconst (v := 1) hx hb dX1_readCommand_71 (by decide) ?_
      refine lv_iadd hx hb dX1_readCommand_72 ?_
      refine z_top (y := nI (he + 1)) (nI_add he 1) ?_
      refine va_put (D := D) (ci := 5) (v := .int (nI (he + 1))) (ty := .int) (C := RX1) (T := TX1) (N := 6) hx hb hts in_RX1 tyX1 tyX1_ok nmX1 hown hK hP hD hS 0 rfl rfl 5 (by decide) (hts _ (List.mem_of_getElem? (i := 1) rfl)) (fun _ h9 => h9) rfl (by decide +kernel) rfl rfl (Nat.le_of_ble_eq_true rfl) dX1_readCommand_73 (fun H locs hP hD hS => ?_)
      have hP : va_P D vwCl [(ic, .inr (5, [.ref o8, .ref oa, .ref fa, .ref sa, .int (nI kc), .int (nI (he + 1))])), (o8, .inr (1, [.ref b8, .int 0, .int ml, .int (nI nn)])), (b8, .inl (cy 1, mm, .inl bx)), (oa, .inl (cy 0, 60, .inl (upd oo k 116))), (fa, .inl (cy 0, 60, .inl (upd fi k 0))), (sa, .inl (cy 0, 60, .inl (upd se k 0)))] H := hP
      have hD : va_D A [(ic, .inr (5, [.ref o8, .ref oa, .ref fa, .ref sa, .int (nI kc), .int (nI (he + 1))])), (o8, .inr (1, [.ref b8, .int 0, .int ml, .int (nI nn)])), (b8, .inl (cy 1, mm, .inl bx)), (oa, .inl (cy 0, 60, .inl (upd oo k 116))), (fa, .inl (cy 0, 60, .inl (upd fi k 0))), (sa, .inl (cy 0, 60, .inl (upd se k 0)))] := hD
      refine lv_aload_n hx hb dX1_readCommand_76 rfl (lv_at hl 0 rfl) ?_
      refine va_get (D := D) (ci := 5) (v := .ref oa) (C := RX1) (T := TX1) (N := 6) hx hb hts in_RX1 hown hK hP 0 rfl rfl 1 (by decide) (hts _ (List.mem_of_getElem? (i := 3) rfl)) (fun _ h9 => h9) rfl dX1_readCommand_77 ?_
      refine lv_iload_n hx hb dX1_readCommand_80 rfl (lv_at hl 1 rfl) ?_
      refine ziald 3 0 k hx hb hK hP rfl rfl (by omega) (z_lt rfl) dX1_readCommand_81 ?_
      refine z_top (y := 116) (upd_s) ?_
      refine lv_tableIn (off := 174) (tgt := 256) hx hb dX1_readCommand_82 (by decide) (by decide) (by decide) (by decide) ?_
      refine lv_aload_n hx hb dX1_readCommand_256 rfl (lv_at hl 0 rfl) ?_
      refine lv_iload_n hx hb dX1_readCommand_257 rfl (lv_at hl 1 rfl) ?_
      refine lv_iconst (v := 1) hx hb dX1_readCommand_258 (by decide) ?_
      refine z_top (y := nI 1) (rfl) ?_
      refine zcV (As := [.int (nI k), .int (nI 1)]) (rest := []) [0, 1, 2, 4] 0 hg.1.1 ⟨hx, hb, hml, hown, hts⟩ (c_X1_readFirst hg l D cy ic oa fa sa kc (he + 1) o8 b8 ml nn bx mm 1 k (upd fi k 0) (by first | assumption | decide | omega) (by first | assumption | decide | omega) (by first | assumption | decide | omega) (by first | assumption | decide | omega) (by first | assumption | decide | omega) (by first | assumption | decide | omega) (by first | assumption | decide | omega) (by first | assumption | decide | omega)) (cwV 2 hts gX1_readCommand_X1_readFirst rfl rfl rfl (by decide +kernel) ⟨Nat.le_of_ble_eq_true rfl, Nat.le_of_ble_eq_true rfl⟩) hG hK hP hD hS hA rfl rfl (Eq.trans (b := [ic, o8, b8, fa]) rfl rfl) rfl rfl rfl hl.1 rfl (Nat.le_of_ble_eq_true rfl) dX1_readCommand_259 ⟨Nat.zero_le _, Nat.zero_le _⟩ (fun H locs hP hD hS => ?_)
      have hP : va_P D vwCl [(ic, .inr (5, [.ref o8, .ref oa, .ref fa, .ref sa, .int (nI kc), .int (nI ((he + 1) + zdN bx nn 1 (he + 1)))])), (o8, .inr (1, [.ref b8, .int 0, .int ml, .int (nI nn)])), (b8, .inl (cy 1, mm, .inl bx)), (oa, .inl (cy 0, 60, .inl (upd oo k 116))), (fa, .inl (cy 0, 60, .inl (upd (upd fi k 0) k (zNu bx nn 1 (he + 1))))), (sa, .inl (cy 0, 60, .inl (upd se k 0)))] H := hP
      have hD : va_D A [(ic, .inr (5, [.ref o8, .ref oa, .ref fa, .ref sa, .int (nI kc), .int (nI ((he + 1) + zdN bx nn 1 (he + 1)))])), (o8, .inr (1, [.ref b8, .int 0, .int ml, .int (nI nn)])), (b8, .inl (cy 1, mm, .inl bx)), (oa, .inl (cy 0, 60, .inl (upd oo k 116))), (fa, .inl (cy 0, 60, .inl (upd (upd fi k 0) k (zNu bx nn 1 (he + 1))))), (sa, .inl (cy 0, 60, .inl (upd se k 0)))] := hD
      exact zzret hend hx hb hr hlk hK hP hD hS dX1_readCommand_262 (zI_nar _) (by rfl) (by simp only [upd_u])
    · exact absurd c_2 (by decide)

abbrev rmX1_readCommand_r112 : Room := { frames := 7, cells := 0, slots := 0, locals := 156 }
set_option maxHeartbeats 4000000 in
set_option maxRecDepth 100000 in
theorem c_X1_readCommand_r112 {G : zG} (hg : zGJ G) (l : Launch) (D : va_G) (cy : Nat → ClassId) (ic : Nat) (oa : Nat) (fa : Nat) (sa : Nat) (kc : Nat) (he : Nat) (o8 : Nat) (b8 : Nat) (ml : Int32) (nn : Nat) (bx : Nat → Int32) (mm : Nat) (ak : Nat) (av : Nat) (oo : Nat → Int32) (fi : Nat → Int32) (se : Nat → Int32) (k : Nat) (hhe : he ≤ 200) (hnm : nn ≤ mm) (hmm : mm ≤ 100) (hch : ∀ j, j < nn → zch (bx j)) (hgl : ∀ (A : Nat → Prop) (U : State), G A U → zLit ak av A U) (hk : k < 60) (hhe6 : he ≤ 60) (hc : zqs bx nn he = 112) : zM G D vwCl (zT cy) l yX1_readCommand wsX1_readCommand rmX1_readCommand_r112 [.ref ic, .int (nI k)] [(ic, .inr (5, [.ref o8, .ref oa, .ref fa, .ref sa, .int (nI kc), .int (nI he)])), (o8, .inr (1, [.ref b8, .int 0, .int ml, .int (nI nn)])), (b8, .inl (cy 1, mm, .inl bx)), (oa, .inl (cy 0, 60, .inl oo)), (fa, .inl (cy 0, 60, .inl fi)), (sa, .inl (cy 0, 60, .inl se))] (some (.int (zI (!(decide (¬ zkN bx nn 8 (he + 1) = 8)))))) [(ic, .inr (5, [.ref o8, .ref oa, .ref fa, .ref sa, .int (nI kc), .int (nI ((he + 1) + zkN bx nn 8 (he + 1)))])), (o8, .inr (1, [.ref b8, .int 0, .int ml, .int (nI nn)])), (b8, .inl (cy 1, mm, .inl bx)), (oa, .inl (cy 0, 60, .inl (upd oo k 112))), (fa, .inl (cy 0, 60, .inl (upd fi k (zkM bx nn 8 (he + 1) 0 0)))), (sa, .inl (cy 0, 60, .inl (upd se k (0))))] := by
  refine zM_of (cc := cX1_readCommand) (maxL := 2) (ret := (some .boolean)) (by decide) rfl (Nat.le_of_ble_eq_true rfl) ?_
  intro p e s m below meth c A Q hend hx hb hml hr hts hown hlk hG hK hP hD hA hS ls hl
  have hown : s.vm.findClass RX1 = some m.cls := hown
  have in_RX1 : ∀ w ∈ u_ws RX1 TX1 6, w ∈ wsX1_readCommand := by decide +kernel
  have hl : lv_has ls 2 [(0, .ref ic), (1, .int (nI k))] := hl
  have hlt : he < nn := zqs_lt hc (by decide)
  have hb0 : bx he = 112 := by have h9 := hc; rw [zqs, if_pos hlt] at h9; exact h9
  refine lv_aload_n hx hb dX1_readCommand_0 rfl (lv_at hl 0 rfl) ?_
  refine va_get (D := D) (ci := 5) (v := .int (nI he)) (C := RX1) (T := TX1) (N := 6) hx hb hts in_RX1 hown hK hP 0 rfl rfl 5 (by decide) (hts _ (List.mem_of_getElem? (i := 1) rfl)) (fun _ h9 => h9) rfl dX1_readCommand_1 ?_
  refine lv_aload_n hx hb dX1_readCommand_4 rfl (lv_at hl 0 rfl) ?_
  refine va_get (D := D) (ci := 5) (v := .ref o8) (C := RX1) (T := TX1) (N := 6) hx hb hts in_RX1 hown hK hP 0 rfl rfl 0 (by decide) (hts _ (List.mem_of_getElem? (i := 2) rfl)) (fun _ h9 => h9) rfl dX1_readCommand_5 ?_
  refine zcV (As := []) (rest := [.int (nI he)]) [1] 1 hg.1.1 ⟨hx, hb, hml, hown, hts⟩ (c_J4_length_8abf5 hg.1 l D cy o8 b8 ml nn) (cwV 0 hts gX1_readCommand_J4_length_8abf5 rfl rfl rfl (by decide +kernel) ⟨Nat.le_of_ble_eq_true rfl, Nat.le_of_ble_eq_true rfl⟩) hG hK hP hD hS hA rfl rfl rfl rfl rfl rfl hl.1 rfl (Nat.le_of_ble_eq_true rfl) dX1_readCommand_8 ⟨Nat.zero_le _, Nat.zero_le _⟩ (fun H locs hP hD hS => ?_)
  have hP : va_P D vwCl [(ic, .inr (5, [.ref o8, .ref oa, .ref fa, .ref sa, .int (nI kc), .int (nI he)])), (o8, .inr (1, [.ref b8, .int 0, .int ml, .int (nI nn)])), (b8, .inl (cy 1, mm, .inl bx)), (oa, .inl (cy 0, 60, .inl oo)), (fa, .inl (cy 0, 60, .inl fi)), (sa, .inl (cy 0, 60, .inl se))] H := hP
  have hD : va_D A [(ic, .inr (5, [.ref o8, .ref oa, .ref fa, .ref sa, .int (nI kc), .int (nI he)])), (o8, .inr (1, [.ref b8, .int 0, .int ml, .int (nI nn)])), (b8, .inl (cy 1, mm, .inl bx)), (oa, .inl (cy 0, 60, .inl oo)), (fa, .inl (cy 0, 60, .inl fi)), (sa, .inl (cy 0, 60, .inl se))] := hD
  refine lv_icmp_ge (tgt := 33) hx hb dX1_readCommand_11 (by decide) (fun c_1 => ?_) (fun c_1 => ?_)
  · exact absurd ((nI_leI (by omega) (by omega)).mp c_1) (Nat.not_le.mpr hlt)
  · refine va_ldcS hx hb hown (hgl A s hG).1 dX1_readCommand_14 ?_
    refine lv_aload_n hx hb dX1_readCommand_16 rfl (lv_at hl 0 rfl) ?_
    refine va_get (D := D) (ci := 5) (v := .ref o8) (C := RX1) (T := TX1) (N := 6) hx hb hts in_RX1 hown hK hP 0 rfl rfl 0 (by decide) (hts _ (List.mem_of_getElem? (i := 2) rfl)) (fun _ h9 => h9) rfl dX1_readCommand_17 ?_
    refine lv_aload_n hx hb dX1_readCommand_20 rfl (lv_at hl 0 rfl) ?_
    refine va_get (D := D) (ci := 5) (v := .int (nI he)) (C := RX1) (T := TX1) (N := 6) hx hb hts in_RX1 hown hK hP 0 rfl rfl 5 (by decide) (hts _ (List.mem_of_getElem? (i := 1) rfl)) (fun _ h9 => h9) rfl dX1_readCommand_21 ?_
    refine zcV (As := [.int (nI he)]) (rest := [.ref ak]) [1, 2] 1 hg.1.1 ⟨hx, hb, hml, hown, hts⟩ (c_J4_charAt_5068e hg l D cy o8 b8 ml nn bx mm he (by first | assumption | omega) (by first | assumption | omega) (by first | assumption | omega) (by first | assumption | omega)) (cwV 1 hts gX1_readCommand_J4_charAt_5068e rfl rfl rfl (by decide +kernel) ⟨Nat.le_of_ble_eq_true rfl, Nat.le_of_ble_eq_true rfl⟩) hG hK hP hD hS hA rfl rfl rfl rfl rfl rfl hl.1 rfl (Nat.le_of_ble_eq_true rfl) dX1_readCommand_24 ⟨Nat.zero_le _, Nat.zero_le _⟩ (fun H locs hP hD hS => ?_)
    have hP : va_P D vwCl [(ic, .inr (5, [.ref o8, .ref oa, .ref fa, .ref sa, .int (nI kc), .int (nI he)])), (o8, .inr (1, [.ref b8, .int 0, .int ml, .int (nI nn)])), (b8, .inl (cy 1, mm, .inl bx)), (oa, .inl (cy 0, 60, .inl oo)), (fa, .inl (cy 0, 60, .inl fi)), (sa, .inl (cy 0, 60, .inl se))] H := hP
    have hD : va_D A [(ic, .inr (5, [.ref o8, .ref oa, .ref fa, .ref sa, .int (nI kc), .int (nI he)])), (o8, .inr (1, [.ref b8, .int 0, .int ml, .int (nI nn)])), (b8, .inl (cy 1, mm, .inl bx)), (oa, .inl (cy 0, 60, .inl oo)), (fa, .inl (cy 0, 60, .inl fi)), (sa, .inl (cy 0, 60, .inl se))] := hD
    refine z_top (y := 112) (hb0) ?_
    refine zcVK (C := RJ0) (As := [.int 112]) (rest := []) [] hg.1.1 ⟨hx, hb, hml, hown, hts⟩ (c_J0_indexOf_0f7a4 hg l D cy ak av 112 (by first | assumption | omega) (by decide) (by decide) (by decide)) (cwV 1 hts gX1_readCommand_J0_indexOf_0f7a4 rfl rfl rfl (by decide +kernel) ⟨Nat.le_of_ble_eq_true rfl, Nat.le_of_ble_eq_true rfl⟩) (hgl A s hG).2.1 hG hK hP hD hS hA rfl rfl rfl  rfl hl.1 rfl (Nat.le_of_ble_eq_true rfl) dX1_readCommand_27 ⟨Nat.zero_le _, Nat.zero_le _⟩ (fun H locs hP hD hS => ?_)
    have hP : va_P D vwCl [(ic, .inr (5, [.ref o8, .ref oa, .ref fa, .ref sa, .int (nI kc), .int (nI he)])), (o8, .inr (1, [.ref b8, .int 0, .int ml, .int (nI nn)])), (b8, .inl (cy 1, mm, .inl bx)), (oa, .inl (cy 0, 60, .inl oo)), (fa, .inl (cy 0, 60, .inl fi)), (sa, .inl (cy 0, 60, .inl se))] H := hP
    have hD : va_D A [(ic, .inr (5, [.ref o8, .ref oa, .ref fa, .ref sa, .int (nI kc), .int (nI he)])), (o8, .inr (1, [.ref b8, .int 0, .int ml, .int (nI nn)])), (b8, .inl (cy 1, mm, .inl bx)), (oa, .inl (cy 0, 60, .inl oo)), (fa, .inl (cy 0, 60, .inl fi)), (sa, .inl (cy 0, 60, .inl se))] := hD
    refine z_top (y := 11) (by decide) ?_
    refine lv_if_ge (tgt := 35) hx hb dX1_readCommand_30 (by decide) (fun c_2 => ?_) (fun c_2 => ?_)
    · refine lv_aload_n hx hb dX1_readCommand_35 rfl (lv_at hl 0 rfl) ?_
      refine va_get (D := D) (ci := 5) (v := .ref oa) (C := RX1) (T := TX1) (N := 6) hx hb hts in_RX1 hown hK hP 0 rfl rfl 1 (by decide) (hts _ (List.mem_of_getElem? (i := 3) rfl)) (fun _ h9 => h9) rfl dX1_readCommand_36 ?_
      refine lv_iload_n hx hb dX1_readCommand_39 rfl (lv_at hl 1 rfl) ?_
      refine lv_aload_n hx hb dX1_readCommand_40 rfl (lv_at hl 0 rfl) ?_
      refine va_get (D := D) (ci := 5) (v := .ref o8) (C := RX1) (T := TX1) (N := 6) hx hb hts in_RX1 hown hK hP 0 rfl rfl 0 (by decide) (hts _ (List.mem_of_getElem? (i := 2) rfl)) (fun _ h9 => h9) rfl dX1_readCommand_41 ?_
      refine lv_aload_n hx hb dX1_readCommand_44 rfl (lv_at hl 0 rfl) ?_
      refine va_get (D := D) (ci := 5) (v := .int (nI he)) (C := RX1) (T := TX1) (N := 6) hx hb hts in_RX1 hown hK hP 0 rfl rfl 5 (by decide) (hts _ (List.mem_of_getElem? (i := 1) rfl)) (fun _ h9 => h9) rfl dX1_readCommand_45 ?_
      refine zcV (As := [.int (nI he)]) (rest := [.int (nI k), .ref oa]) [1, 2] 1 hg.1.1 ⟨hx, hb, hml, hown, hts⟩ (c_J4_charAt_5068e hg l D cy o8 b8 ml nn bx mm he (by first | assumption | omega) (by first | assumption | omega) (by first | assumption | omega) (by first | assumption | omega)) (cwV 1 hts gX1_readCommand_J4_charAt_5068e rfl rfl rfl (by decide +kernel) ⟨Nat.le_of_ble_eq_true rfl, Nat.le_of_ble_eq_true rfl⟩) hG hK hP hD hS hA rfl rfl rfl rfl rfl rfl hl.1 rfl (Nat.le_of_ble_eq_true rfl) dX1_readCommand_48 ⟨Nat.zero_le _, Nat.zero_le _⟩ (fun H locs hP hD hS => ?_)
      have hP : va_P D vwCl [(ic, .inr (5, [.ref o8, .ref oa, .ref fa, .ref sa, .int (nI kc), .int (nI he)])), (o8, .inr (1, [.ref b8, .int 0, .int ml, .int (nI nn)])), (b8, .inl (cy 1, mm, .inl bx)), (oa, .inl (cy 0, 60, .inl oo)), (fa, .inl (cy 0, 60, .inl fi)), (sa, .inl (cy 0, 60, .inl se))] H := hP
      have hD : va_D A [(ic, .inr (5, [.ref o8, .ref oa, .ref fa, .ref sa, .int (nI kc), .int (nI he)])), (o8, .inr (1, [.ref b8, .int 0, .int ml, .int (nI nn)])), (b8, .inl (cy 1, mm, .inl bx)), (oa, .inl (cy 0, 60, .inl oo)), (fa, .inl (cy 0, 60, .inl fi)), (sa, .inl (cy 0, 60, .inl se))] := hD
      refine z_top (y := 112) (hb0) ?_
      refine ziast 3 0 k hx hb hK hP hD hS rfl rfl (by omega) (z_lt rfl) dX1_readCommand_51 (fun H locs hP hD hS => ?_)
      have hP : va_P D vwCl [(ic, .inr (5, [.ref o8, .ref oa, .ref fa, .ref sa, .int (nI kc), .int (nI he)])), (o8, .inr (1, [.ref b8, .int 0, .int ml, .int (nI nn)])), (b8, .inl (cy 1, mm, .inl bx)), (oa, .inl (cy 0, 60, .inl (upd oo k 112))), (fa, .inl (cy 0, 60, .inl fi)), (sa, .inl (cy 0, 60, .inl se))] H := hP
      have hD : va_D A [(ic, .inr (5, [.ref o8, .ref oa, .ref fa, .ref sa, .int (nI kc), .int (nI he)])), (o8, .inr (1, [.ref b8, .int 0, .int ml, .int (nI nn)])), (b8, .inl (cy 1, mm, .inl bx)), (oa, .inl (cy 0, 60, .inl (upd oo k 112))), (fa, .inl (cy 0, 60, .inl fi)), (sa, .inl (cy 0, 60, .inl se))] := hD
      refine lv_aload_n hx hb dX1_readCommand_52 rfl (lv_at hl 0 rfl) ?_
      refine va_get (D := D) (ci := 5) (v := .ref fa) (C := RX1) (T := TX1) (N := 6) hx hb hts in_RX1 hown hK hP 0 rfl rfl 2 (by decide) (hts _ (List.mem_of_getElem? (i := 4) rfl)) (fun _ h9 => h9) rfl dX1_readCommand_53 ?_
      refine lv_iload_n hx hb dX1_readCommand_56 rfl (lv_at hl 1 rfl) ?_
      refine lv_iconst (v := 0) hx hb dX1_readCommand_57 (by decide) ?_
      refine ziast 4 0 k hx hb hK hP hD hS rfl rfl (by omega) (z_lt rfl) dX1_readCommand_58 (fun H locs hP hD hS => ?_)
      have hP : va_P D vwCl [(ic, .inr (5, [.ref o8, .ref oa, .ref fa, .ref sa, .int (nI kc), .int (nI he)])), (o8, .inr (1, [.ref b8, .int 0, .int ml, .int (nI nn)])), (b8, .inl (cy 1, mm, .inl bx)), (oa, .inl (cy 0, 60, .inl (upd oo k 112))), (fa, .inl (cy 0, 60, .inl (upd fi k 0))), (sa, .inl (cy 0, 60, .inl se))] H := hP
      have hD : va_D A [(ic, .inr (5, [.ref o8, .ref oa, .ref fa, .ref sa, .int (nI kc), .int (nI he)])), (o8, .inr (1, [.ref b8, .int 0, .int ml, .int (nI nn)])), (b8, .inl (cy 1, mm, .inl bx)), (oa, .inl (cy 0, 60, .inl (upd oo k 112))), (fa, .inl (cy 0, 60, .inl (upd fi k 0))), (sa, .inl (cy 0, 60, .inl se))] := hD
      refine lv_aload_n hx hb dX1_readCommand_59 rfl (lv_at hl 0 rfl) ?_
      refine va_get (D := D) (ci := 5) (v := .ref sa) (C := RX1) (T := TX1) (N := 6) hx hb hts in_RX1 hown hK hP 0 rfl rfl 3 (by decide) (hts _ (List.mem_of_getElem? (i := 5) rfl)) (fun _ h9 => h9) rfl dX1_readCommand_60 ?_
      refine lv_iload_n hx hb dX1_readCommand_63 rfl (lv_at hl 1 rfl) ?_
      refine lv_iconst (v := 0) hx hb dX1_readCommand_64 (by decide) ?_
      refine ziast 5 0 k hx hb hK hP hD hS rfl rfl (by omega) (z_lt rfl) dX1_readCommand_65 (fun H locs hP hD hS => ?_)
      have hP : va_P D vwCl [(ic, .inr (5, [.ref o8, .ref oa, .ref fa, .ref sa, .int (nI kc), .int (nI he)])), (o8, .inr (1, [.ref b8, .int 0, .int ml, .int (nI nn)])), (b8, .inl (cy 1, mm, .inl bx)), (oa, .inl (cy 0, 60, .inl (upd oo k 112))), (fa, .inl (cy 0, 60, .inl (upd fi k 0))), (sa, .inl (cy 0, 60, .inl (upd se k 0)))] H := hP
      have hD : va_D A [(ic, .inr (5, [.ref o8, .ref oa, .ref fa, .ref sa, .int (nI kc), .int (nI he)])), (o8, .inr (1, [.ref b8, .int 0, .int ml, .int (nI nn)])), (b8, .inl (cy 1, mm, .inl bx)), (oa, .inl (cy 0, 60, .inl (upd oo k 112))), (fa, .inl (cy 0, 60, .inl (upd fi k 0))), (sa, .inl (cy 0, 60, .inl (upd se k 0)))] := hD
      refine lv_aload_n hx hb dX1_readCommand_66 rfl (lv_at hl 0 rfl) ?_
      refine lv_dup hx hb dX1_readCommand_67 rfl ?_
      refine va_get (D := D) (ci := 5) (v := .int (nI he)) (C := RX1) (T := TX1) (N := 6) hx hb hts in_RX1 hown hK hP 0 rfl rfl 5 (by decide) (hts _ (List.mem_of_getElem? (i := 1) rfl)) (fun _ h9 => h9) rfl dX1_readCommand_68 ?_
      refine lv_iconst (v := 1) hx hb dX1_readCommand_71 (by decide) ?_
      refine lv_iadd hx hb dX1_readCommand_72 ?_
      refine z_top (y := nI (he + 1)) (nI_add he 1) ?_
      refine va_put (D := D) (ci := 5) (v := .int (nI (he + 1))) (ty := .int) (C := RX1) (T := TX1) (N := 6) hx hb hts in_RX1 tyX1 tyX1_ok nmX1 hown hK hP hD hS 0 rfl rfl 5 (by decide) (hts _ (List.mem_of_getElem? (i := 1) rfl)) (fun _ h9 => h9) rfl (by decide +kernel) rfl rfl (Nat.le_of_ble_eq_true rfl) dX1_readCommand_73 (fun H locs hP hD hS => ?_)
      have hP : va_P D vwCl [(ic, .inr (5, [.ref o8, .ref oa, .ref fa, .ref sa, .int (nI kc), .int (nI (he + 1))])), (o8, .inr (1, [.ref b8, .int 0, .int ml, .int (nI nn)])), (b8, .inl (cy 1, mm, .inl bx)), (oa, .inl (cy 0, 60, .inl (upd oo k 112))), (fa, .inl (cy 0, 60, .inl (upd fi k 0))), (sa, .inl (cy 0, 60, .inl (upd se k 0)))] H := hP
      have hD : va_D A [(ic, .inr (5, [.ref o8, .ref oa, .ref fa, .ref sa, .int (nI kc), .int (nI (he + 1))])), (o8, .inr (1, [.ref b8, .int 0, .int ml, .int (nI nn)])), (b8, .inl (cy 1, mm, .inl bx)), (oa, .inl (cy 0, 60, .inl (upd oo k 112))), (fa, .inl (cy 0, 60, .inl (upd fi k 0))), (sa, .inl (cy 0, 60, .inl (upd se k 0)))] := hD
      refine lv_aload_n hx hb dX1_readCommand_76 rfl (lv_at hl 0 rfl) ?_
      refine va_get (D := D) (ci := 5) (v := .ref oa) (C := RX1) (T := TX1) (N := 6) hx hb hts in_RX1 hown hK hP 0 rfl rfl 1 (by decide) (hts _ (List.mem_of_getElem? (i := 3) rfl)) (fun _ h9 => h9) rfl dX1_readCommand_77 ?_
      refine lv_iload_n hx hb dX1_readCommand_80 rfl (lv_at hl 1 rfl) ?_
      refine ziald 3 0 k hx hb hK hP rfl rfl (by omega) (z_lt rfl) dX1_readCommand_81 ?_
      refine z_top (y := 112) (upd_s) ?_
      refine lv_tableIn (off := 181) (tgt := 263) hx hb dX1_readCommand_82 (by decide) (by decide) (by decide) (by decide) ?_
      refine lv_aload_n hx hb dX1_readCommand_263 rfl (lv_at hl 0 rfl) ?_
      refine lv_iload_n hx hb dX1_readCommand_264 rfl (lv_at hl 1 rfl) ?_
      refine zcV (As := [.int (nI k)]) (rest := []) [0, 1, 2, 4] 0 hg.1.1 ⟨hx, hb, hml, hown, hts⟩ (c_X1_readMask hg l D cy ic oa fa sa kc (he + 1) o8 b8 ml nn bx mm k fi (by first | assumption | omega) (by first | assumption | omega) (by first | assumption | omega) (by first | assumption | omega) (by first | assumption | omega) (by first | assumption | omega)) (cwV 1 hts gX1_readCommand_X1_readMask rfl rfl rfl (by decide +kernel) ⟨Nat.le_of_ble_eq_true rfl, Nat.le_of_ble_eq_true rfl⟩) hG hK hP hD hS hA rfl rfl (Eq.trans (b := [ic, o8, b8, fa]) rfl rfl) rfl rfl rfl hl.1 rfl (Nat.le_of_ble_eq_true rfl) dX1_readCommand_265 ⟨Nat.zero_le _, Nat.zero_le _⟩ (fun H locs hP hD hS => ?_)
      have hP : va_P D vwCl [(ic, .inr (5, [.ref o8, .ref oa, .ref fa, .ref sa, .int (nI kc), .int (nI ((he + 1) + zkN bx nn 8 (he + 1)))])), (o8, .inr (1, [.ref b8, .int 0, .int ml, .int (nI nn)])), (b8, .inl (cy 1, mm, .inl bx)), (oa, .inl (cy 0, 60, .inl (upd oo k 112))), (fa, .inl (cy 0, 60, .inl (upd fi k (zkM bx nn 8 (he + 1) 0 0)))), (sa, .inl (cy 0, 60, .inl (upd se k 0)))] H := hP
      have hD : va_D A [(ic, .inr (5, [.ref o8, .ref oa, .ref fa, .ref sa, .int (nI kc), .int (nI ((he + 1) + zkN bx nn 8 (he + 1)))])), (o8, .inr (1, [.ref b8, .int 0, .int ml, .int (nI nn)])), (b8, .inl (cy 1, mm, .inl bx)), (oa, .inl (cy 0, 60, .inl (upd oo k 112))), (fa, .inl (cy 0, 60, .inl (upd fi k (zkM bx nn 8 (he + 1) 0 0)))), (sa, .inl (cy 0, 60, .inl (upd se k 0)))] := hD
      exact zzret hend hx hb hr hlk hK hP hD hS dX1_readCommand_268 (zI_nar _) (by simp only [decide_not, Bool.not_not]) (by simp only [upd_u])
    · exact absurd c_2 (by decide)

abbrev rmX1_readCommand_r120 : Room := { frames := 7, cells := 0, slots := 0, locals := 156 }
set_option maxHeartbeats 4000000 in
set_option maxRecDepth 100000 in
theorem c_X1_readCommand_r120 {G : zG} (hg : zGJ G) (l : Launch) (D : va_G) (cy : Nat → ClassId) (ic : Nat) (oa : Nat) (fa : Nat) (sa : Nat) (kc : Nat) (he : Nat) (o8 : Nat) (b8 : Nat) (ml : Int32) (nn : Nat) (bx : Nat → Int32) (mm : Nat) (ak : Nat) (av : Nat) (oo : Nat → Int32) (fi : Nat → Int32) (se : Nat → Int32) (k : Nat) (hhe : he ≤ 200) (hnm : nn ≤ mm) (hmm : mm ≤ 100) (hch : ∀ j, j < nn → zch (bx j)) (hgl : ∀ (A : Nat → Prop) (U : State), G A U → zLit ak av A U) (hk : k < 60) (hhe6 : he ≤ 60) (hc : zqs bx nn he = 120) : zM G D vwCl (zT cy) l yX1_readCommand wsX1_readCommand rmX1_readCommand_r120 [.ref ic, .int (nI k)] [(ic, .inr (5, [.ref o8, .ref oa, .ref fa, .ref sa, .int (nI kc), .int (nI he)])), (o8, .inr (1, [.ref b8, .int 0, .int ml, .int (nI nn)])), (b8, .inl (cy 1, mm, .inl bx)), (oa, .inl (cy 0, 60, .inl oo)), (fa, .inl (cy 0, 60, .inl fi)), (sa, .inl (cy 0, 60, .inl se))] (some (.int 1)) [(ic, .inr (5, [.ref o8, .ref oa, .ref fa, .ref sa, .int (nI kc), .int (nI (he + 1))])), (o8, .inr (1, [.ref b8, .int 0, .int ml, .int (nI nn)])), (b8, .inl (cy 1, mm, .inl bx)), (oa, .inl (cy 0, 60, .inl (upd oo k 120))), (fa, .inl (cy 0, 60, .inl (upd fi k (0)))), (sa, .inl (cy 0, 60, .inl (upd se k (0))))] := by
  refine zM_of (cc := cX1_readCommand) (maxL := 2) (ret := (some .boolean)) (by decide) rfl (Nat.le_of_ble_eq_true rfl) ?_
  intro p e s m below meth c A Q hend hx hb hml hr hts hown hlk hG hK hP hD hA hS ls hl
  have hown : s.vm.findClass RX1 = some m.cls := hown
  have in_RX1 : ∀ w ∈ u_ws RX1 TX1 6, w ∈ wsX1_readCommand := by decide +kernel
  have hl : lv_has ls 2 [(0, .ref ic), (1, .int (nI k))] := hl
  have hlt : he < nn := zqs_lt hc (by decide)
  have hb0 : bx he = 120 := by have h9 := hc; rw [zqs, if_pos hlt] at h9; exact h9
  refine lv_aload_n hx hb dX1_readCommand_0 rfl (lv_at hl 0 rfl) ?_
  refine va_get (D := D) (ci := 5) (v := .int (nI he)) (C := RX1) (T := TX1) (N := 6) hx hb hts in_RX1 hown hK hP 0 rfl rfl 5 (by decide) (hts _ (List.mem_of_getElem? (i := 1) rfl)) (fun _ h9 => h9) rfl dX1_readCommand_1 ?_
  refine lv_aload_n hx hb dX1_readCommand_4 rfl (lv_at hl 0 rfl) ?_
  refine va_get (D := D) (ci := 5) (v := .ref o8) (C := RX1) (T := TX1) (N := 6) hx hb hts in_RX1 hown hK hP 0 rfl rfl 0 (by decide) (hts _ (List.mem_of_getElem? (i := 2) rfl)) (fun _ h9 => h9) rfl dX1_readCommand_5 ?_
  refine zcV (As := []) (rest := [.int (nI he)]) [1] 1 hg.1.1 ⟨hx, hb, hml, hown, hts⟩ (c_J4_length_8abf5 hg.1 l D cy o8 b8 ml nn) (cwV 0 hts gX1_readCommand_J4_length_8abf5 rfl rfl rfl (by decide +kernel) ⟨Nat.le_of_ble_eq_true rfl, Nat.le_of_ble_eq_true rfl⟩) hG hK hP hD hS hA rfl rfl rfl rfl rfl rfl hl.1 rfl (Nat.le_of_ble_eq_true rfl) dX1_readCommand_8 ⟨Nat.zero_le _, Nat.zero_le _⟩ (fun H locs hP hD hS => ?_)
  have hP : va_P D vwCl [(ic, .inr (5, [.ref o8, .ref oa, .ref fa, .ref sa, .int (nI kc), .int (nI he)])), (o8, .inr (1, [.ref b8, .int 0, .int ml, .int (nI nn)])), (b8, .inl (cy 1, mm, .inl bx)), (oa, .inl (cy 0, 60, .inl oo)), (fa, .inl (cy 0, 60, .inl fi)), (sa, .inl (cy 0, 60, .inl se))] H := hP
  have hD : va_D A [(ic, .inr (5, [.ref o8, .ref oa, .ref fa, .ref sa, .int (nI kc), .int (nI he)])), (o8, .inr (1, [.ref b8, .int 0, .int ml, .int (nI nn)])), (b8, .inl (cy 1, mm, .inl bx)), (oa, .inl (cy 0, 60, .inl oo)), (fa, .inl (cy 0, 60, .inl fi)), (sa, .inl (cy 0, 60, .inl se))] := hD
  refine lv_icmp_ge (tgt := 33) hx hb dX1_readCommand_11 (by decide) (fun c_1 => ?_) (fun c_1 => ?_)
  · exact absurd ((nI_leI (by omega) (by omega)).mp c_1) (Nat.not_le.mpr hlt)
  · refine va_ldcS hx hb hown (hgl A s hG).1 dX1_readCommand_14 ?_
    refine lv_aload_n hx hb dX1_readCommand_16 rfl (lv_at hl 0 rfl) ?_
    refine va_get (D := D) (ci := 5) (v := .ref o8) (C := RX1) (T := TX1) (N := 6) hx hb hts in_RX1 hown hK hP 0 rfl rfl 0 (by decide) (hts _ (List.mem_of_getElem? (i := 2) rfl)) (fun _ h9 => h9) rfl dX1_readCommand_17 ?_
    refine lv_aload_n hx hb dX1_readCommand_20 rfl (lv_at hl 0 rfl) ?_
    refine va_get (D := D) (ci := 5) (v := .int (nI he)) (C := RX1) (T := TX1) (N := 6) hx hb hts in_RX1 hown hK hP 0 rfl rfl 5 (by decide) (hts _ (List.mem_of_getElem? (i := 1) rfl)) (fun _ h9 => h9) rfl dX1_readCommand_21 ?_
    refine zcV (As := [.int (nI he)]) (rest := [.ref ak]) [1, 2] 1 hg.1.1 ⟨hx, hb, hml, hown, hts⟩ (c_J4_charAt_5068e hg l D cy o8 b8 ml nn bx mm he (by first | assumption | omega) (by first | assumption | omega) (by first | assumption | omega) (by first | assumption | omega)) (cwV 1 hts gX1_readCommand_J4_charAt_5068e rfl rfl rfl (by decide +kernel) ⟨Nat.le_of_ble_eq_true rfl, Nat.le_of_ble_eq_true rfl⟩) hG hK hP hD hS hA rfl rfl rfl rfl rfl rfl hl.1 rfl (Nat.le_of_ble_eq_true rfl) dX1_readCommand_24 ⟨Nat.zero_le _, Nat.zero_le _⟩ (fun H locs hP hD hS => ?_)
    have hP : va_P D vwCl [(ic, .inr (5, [.ref o8, .ref oa, .ref fa, .ref sa, .int (nI kc), .int (nI he)])), (o8, .inr (1, [.ref b8, .int 0, .int ml, .int (nI nn)])), (b8, .inl (cy 1, mm, .inl bx)), (oa, .inl (cy 0, 60, .inl oo)), (fa, .inl (cy 0, 60, .inl fi)), (sa, .inl (cy 0, 60, .inl se))] H := hP
    have hD : va_D A [(ic, .inr (5, [.ref o8, .ref oa, .ref fa, .ref sa, .int (nI kc), .int (nI he)])), (o8, .inr (1, [.ref b8, .int 0, .int ml, .int (nI nn)])), (b8, .inl (cy 1, mm, .inl bx)), (oa, .inl (cy 0, 60, .inl oo)), (fa, .inl (cy 0, 60, .inl fi)), (sa, .inl (cy 0, 60, .inl se))] := hD
    refine z_top (y := 120) (hb0) ?_
    refine zcVK (C := RJ0) (As := [.int 120]) (rest := []) [] hg.1.1 ⟨hx, hb, hml, hown, hts⟩ (c_J0_indexOf_0f7a4 hg l D cy ak av 120 (by first | assumption | omega) (by decide) (by decide) (by decide)) (cwV 1 hts gX1_readCommand_J0_indexOf_0f7a4 rfl rfl rfl (by decide +kernel) ⟨Nat.le_of_ble_eq_true rfl, Nat.le_of_ble_eq_true rfl⟩) (hgl A s hG).2.1 hG hK hP hD hS hA rfl rfl rfl  rfl hl.1 rfl (Nat.le_of_ble_eq_true rfl) dX1_readCommand_27 ⟨Nat.zero_le _, Nat.zero_le _⟩ (fun H locs hP hD hS => ?_)
    have hP : va_P D vwCl [(ic, .inr (5, [.ref o8, .ref oa, .ref fa, .ref sa, .int (nI kc), .int (nI he)])), (o8, .inr (1, [.ref b8, .int 0, .int ml, .int (nI nn)])), (b8, .inl (cy 1, mm, .inl bx)), (oa, .inl (cy 0, 60, .inl oo)), (fa, .inl (cy 0, 60, .inl fi)), (sa, .inl (cy 0, 60, .inl se))] H := hP
    have hD : va_D A [(ic, .inr (5, [.ref o8, .ref oa, .ref fa, .ref sa, .int (nI kc), .int (nI he)])), (o8, .inr (1, [.ref b8, .int 0, .int ml, .int (nI nn)])), (b8, .inl (cy 1, mm, .inl bx)), (oa, .inl (cy 0, 60, .inl oo)), (fa, .inl (cy 0, 60, .inl fi)), (sa, .inl (cy 0, 60, .inl se))] := hD
    refine z_top (y := 1) (by decide) ?_
    refine lv_if_ge (tgt := 35) hx hb dX1_readCommand_30 (by decide) (fun c_2 => ?_) (fun c_2 => ?_)
    · refine lv_aload_n hx hb dX1_readCommand_35 rfl (lv_at hl 0 rfl) ?_
      refine va_get (D := D) (ci := 5) (v := .ref oa) (C := RX1) (T := TX1) (N := 6) hx hb hts in_RX1 hown hK hP 0 rfl rfl 1 (by decide) (hts _ (List.mem_of_getElem? (i := 3) rfl)) (fun _ h9 => h9) rfl dX1_readCommand_36 ?_
      refine lv_iload_n hx hb dX1_readCommand_39 rfl (lv_at hl 1 rfl) ?_
      refine lv_aload_n hx hb dX1_readCommand_40 rfl (lv_at hl 0 rfl) ?_
      refine va_get (D := D) (ci := 5) (v := .ref o8) (C := RX1) (T := TX1) (N := 6) hx hb hts in_RX1 hown hK hP 0 rfl rfl 0 (by decide) (hts _ (List.mem_of_getElem? (i := 2) rfl)) (fun _ h9 => h9) rfl dX1_readCommand_41 ?_
      refine lv_aload_n hx hb dX1_readCommand_44 rfl (lv_at hl 0 rfl) ?_
      refine va_get (D := D) (ci := 5) (v := .int (nI he)) (C := RX1) (T := TX1) (N := 6) hx hb hts in_RX1 hown hK hP 0 rfl rfl 5 (by decide) (hts _ (List.mem_of_getElem? (i := 1) rfl)) (fun _ h9 => h9) rfl dX1_readCommand_45 ?_
      refine zcV (As := [.int (nI he)]) (rest := [.int (nI k), .ref oa]) [1, 2] 1 hg.1.1 ⟨hx, hb, hml, hown, hts⟩ (c_J4_charAt_5068e hg l D cy o8 b8 ml nn bx mm he (by first | assumption | omega) (by first | assumption | omega) (by first | assumption | omega) (by first | assumption | omega)) (cwV 1 hts gX1_readCommand_J4_charAt_5068e rfl rfl rfl (by decide +kernel) ⟨Nat.le_of_ble_eq_true rfl, Nat.le_of_ble_eq_true rfl⟩) hG hK hP hD hS hA rfl rfl rfl rfl rfl rfl hl.1 rfl (Nat.le_of_ble_eq_true rfl) dX1_readCommand_48 ⟨Nat.zero_le _, Nat.zero_le _⟩ (fun H locs hP hD hS => ?_)
      have hP : va_P D vwCl [(ic, .inr (5, [.ref o8, .ref oa, .ref fa, .ref sa, .int (nI kc), .int (nI he)])), (o8, .inr (1, [.ref b8, .int 0, .int ml, .int (nI nn)])), (b8, .inl (cy 1, mm, .inl bx)), (oa, .inl (cy 0, 60, .inl oo)), (fa, .inl (cy 0, 60, .inl fi)), (sa, .inl (cy 0, 60, .inl se))] H := hP
      have hD : va_D A [(ic, .inr (5, [.ref o8, .ref oa, .ref fa, .ref sa, .int (nI kc), .int (nI he)])), (o8, .inr (1, [.ref b8, .int 0, .int ml, .int (nI nn)])), (b8, .inl (cy 1, mm, .inl bx)), (oa, .inl (cy 0, 60, .inl oo)), (fa, .inl (cy 0, 60, .inl fi)), (sa, .inl (cy 0, 60, .inl se))] := hD
      refine z_top (y := 120) (hb0) ?_
      refine ziast 3 0 k hx hb hK hP hD hS rfl rfl (by omega) (z_lt rfl) dX1_readCommand_51 (fun H locs hP hD hS => ?_)
      have hP : va_P D vwCl [(ic, .inr (5, [.ref o8, .ref oa, .ref fa, .ref sa, .int (nI kc), .int (nI he)])), (o8, .inr (1, [.ref b8, .int 0, .int ml, .int (nI nn)])), (b8, .inl (cy 1, mm, .inl bx)), (oa, .inl (cy 0, 60, .inl (upd oo k 120))), (fa, .inl (cy 0, 60, .inl fi)), (sa, .inl (cy 0, 60, .inl se))] H := hP
      have hD : va_D A [(ic, .inr (5, [.ref o8, .ref oa, .ref fa, .ref sa, .int (nI kc), .int (nI he)])), (o8, .inr (1, [.ref b8, .int 0, .int ml, .int (nI nn)])), (b8, .inl (cy 1, mm, .inl bx)), (oa, .inl (cy 0, 60, .inl (upd oo k 120))), (fa, .inl (cy 0, 60, .inl fi)), (sa, .inl (cy 0, 60, .inl se))] := hD
      refine lv_aload_n hx hb dX1_readCommand_52 rfl (lv_at hl 0 rfl) ?_
      refine va_get (D := D) (ci := 5) (v := .ref fa) (C := RX1) (T := TX1) (N := 6) hx hb hts in_RX1 hown hK hP 0 rfl rfl 2 (by decide) (hts _ (List.mem_of_getElem? (i := 4) rfl)) (fun _ h9 => h9) rfl dX1_readCommand_53 ?_
      refine lv_iload_n hx hb dX1_readCommand_56 rfl (lv_at hl 1 rfl) ?_
      refine lv_iconst (v := 0) hx hb dX1_readCommand_57 (by decide) ?_
      refine ziast 4 0 k hx hb hK hP hD hS rfl rfl (by omega) (z_lt rfl) dX1_readCommand_58 (fun H locs hP hD hS => ?_)
      have hP : va_P D vwCl [(ic, .inr (5, [.ref o8, .ref oa, .ref fa, .ref sa, .int (nI kc), .int (nI he)])), (o8, .inr (1, [.ref b8, .int 0, .int ml, .int (nI nn)])), (b8, .inl (cy 1, mm, .inl bx)), (oa, .inl (cy 0, 60, .inl (upd oo k 120))), (fa, .inl (cy 0, 60, .inl (upd fi k 0))), (sa, .inl (cy 0, 60, .inl se))] H := hP
      have hD : va_D A [(ic, .inr (5, [.ref o8, .ref oa, .ref fa, .ref sa, .int (nI kc), .int (nI he)])), (o8, .inr (1, [.ref b8, .int 0, .int ml, .int (nI nn)])), (b8, .inl (cy 1, mm, .inl bx)), (oa, .inl (cy 0, 60, .inl (upd oo k 120))), (fa, .inl (cy 0, 60, .inl (upd fi k 0))), (sa, .inl (cy 0, 60, .inl se))] := hD
      refine lv_aload_n hx hb dX1_readCommand_59 rfl (lv_at hl 0 rfl) ?_
      refine va_get (D := D) (ci := 5) (v := .ref sa) (C := RX1) (T := TX1) (N := 6) hx hb hts in_RX1 hown hK hP 0 rfl rfl 3 (by decide) (hts _ (List.mem_of_getElem? (i := 5) rfl)) (fun _ h9 => h9) rfl dX1_readCommand_60 ?_
      refine lv_iload_n hx hb dX1_readCommand_63 rfl (lv_at hl 1 rfl) ?_
      refine lv_iconst (v := 0) hx hb dX1_readCommand_64 (by decide) ?_
      refine ziast 5 0 k hx hb hK hP hD hS rfl rfl (by omega) (z_lt rfl) dX1_readCommand_65 (fun H locs hP hD hS => ?_)
      have hP : va_P D vwCl [(ic, .inr (5, [.ref o8, .ref oa, .ref fa, .ref sa, .int (nI kc), .int (nI he)])), (o8, .inr (1, [.ref b8, .int 0, .int ml, .int (nI nn)])), (b8, .inl (cy 1, mm, .inl bx)), (oa, .inl (cy 0, 60, .inl (upd oo k 120))), (fa, .inl (cy 0, 60, .inl (upd fi k 0))), (sa, .inl (cy 0, 60, .inl (upd se k 0)))] H := hP
      have hD : va_D A [(ic, .inr (5, [.ref o8, .ref oa, .ref fa, .ref sa, .int (nI kc), .int (nI he)])), (o8, .inr (1, [.ref b8, .int 0, .int ml, .int (nI nn)])), (b8, .inl (cy 1, mm, .inl bx)), (oa, .inl (cy 0, 60, .inl (upd oo k 120))), (fa, .inl (cy 0, 60, .inl (upd fi k 0))), (sa, .inl (cy 0, 60, .inl (upd se k 0)))] := hD
      refine lv_aload_n hx hb dX1_readCommand_66 rfl (lv_at hl 0 rfl) ?_
      refine lv_dup hx hb dX1_readCommand_67 rfl ?_
      refine va_get (D := D) (ci := 5) (v := .int (nI he)) (C := RX1) (T := TX1) (N := 6) hx hb hts in_RX1 hown hK hP 0 rfl rfl 5 (by decide) (hts _ (List.mem_of_getElem? (i := 1) rfl)) (fun _ h9 => h9) rfl dX1_readCommand_68 ?_
      refine lv_iconst (v := 1) hx hb dX1_readCommand_71 (by decide) ?_
      refine lv_iadd hx hb dX1_readCommand_72 ?_
      refine z_top (y := nI (he + 1)) (nI_add he 1) ?_
      refine va_put (D := D) (ci := 5) (v := .int (nI (he + 1))) (ty := .int) (C := RX1) (T := TX1) (N := 6) hx hb hts in_RX1 tyX1 tyX1_ok nmX1 hown hK hP hD hS 0 rfl rfl 5 (by decide) (hts _ (List.mem_of_getElem? (i := 1) rfl)) (fun _ h9 => h9) rfl (by decide +kernel) rfl rfl (Nat.le_of_ble_eq_true rfl) dX1_readCommand_73 (fun H locs hP hD hS => ?_)
      have hP : va_P D vwCl [(ic, .inr (5, [.ref o8, .ref oa, .ref fa, .ref sa, .int (nI kc), .int (nI (he + 1))])), (o8, .inr (1, [.ref b8, .int 0, .int ml, .int (nI nn)])), (b8, .inl (cy 1, mm, .inl bx)), (oa, .inl (cy 0, 60, .inl (upd oo k 120))), (fa, .inl (cy 0, 60, .inl (upd fi k 0))), (sa, .inl (cy 0, 60, .inl (upd se k 0)))] H := hP
      have hD : va_D A [(ic, .inr (5, [.ref o8, .ref oa, .ref fa, .ref sa, .int (nI kc), .int (nI (he + 1))])), (o8, .inr (1, [.ref b8, .int 0, .int ml, .int (nI nn)])), (b8, .inl (cy 1, mm, .inl bx)), (oa, .inl (cy 0, 60, .inl (upd oo k 120))), (fa, .inl (cy 0, 60, .inl (upd fi k 0))), (sa, .inl (cy 0, 60, .inl (upd se k 0)))] := hD
      refine lv_aload_n hx hb dX1_readCommand_76 rfl (lv_at hl 0 rfl) ?_
      refine va_get (D := D) (ci := 5) (v := .ref oa) (C := RX1) (T := TX1) (N := 6) hx hb hts in_RX1 hown hK hP 0 rfl rfl 1 (by decide) (hts _ (List.mem_of_getElem? (i := 3) rfl)) (fun _ h9 => h9) rfl dX1_readCommand_77 ?_
      refine lv_iload_n hx hb dX1_readCommand_80 rfl (lv_at hl 1 rfl) ?_
      refine ziald 3 0 k hx hb hK hP rfl rfl (by omega) (z_lt rfl) dX1_readCommand_81 ?_
      refine z_top (y := 120) (upd_s) ?_
      refine lv_tableIn (off := 106) (tgt := 188) hx hb dX1_readCommand_82 (by decide) (by decide) (by decide) (by decide) ?_
      refine lv_iconst (v := 1) hx hb dX1_readCommand_188 (by decide) ?_
      exact zzret hend hx hb hr hlk hK hP hD hS dX1_readCommand_189 rfl rfl (by simp only [upd_u])
    · exact absurd c_2 (by decide)

abbrev rmX1_readCommand_r113 : Room := { frames := 7, cells := 0, slots := 0, locals := 156 }
set_option maxHeartbeats 4000000 in
set_option maxRecDepth 100000 in
theorem c_X1_readCommand_r113 {G : zG} (hg : zGJ G) (l : Launch) (D : va_G) (cy : Nat → ClassId) (ic : Nat) (oa : Nat) (fa : Nat) (sa : Nat) (kc : Nat) (he : Nat) (o8 : Nat) (b8 : Nat) (ml : Int32) (nn : Nat) (bx : Nat → Int32) (mm : Nat) (ak : Nat) (av : Nat) (oo : Nat → Int32) (fi : Nat → Int32) (se : Nat → Int32) (k : Nat) (hhe : he ≤ 200) (hnm : nn ≤ mm) (hmm : mm ≤ 100) (hch : ∀ j, j < nn → zch (bx j)) (hgl : ∀ (A : Nat → Prop) (U : State), G A U → zLit ak av A U) (hk : k < 60) (hhe6 : he ≤ 60) (hc : zqs bx nn he = 113) : zM G D vwCl (zT cy) l yX1_readCommand wsX1_readCommand rmX1_readCommand_r113 [.ref ic, .int (nI k)] [(ic, .inr (5, [.ref o8, .ref oa, .ref fa, .ref sa, .int (nI kc), .int (nI he)])), (o8, .inr (1, [.ref b8, .int 0, .int ml, .int (nI nn)])), (b8, .inl (cy 1, mm, .inl bx)), (oa, .inl (cy 0, 60, .inl oo)), (fa, .inl (cy 0, 60, .inl fi)), (sa, .inl (cy 0, 60, .inl se))] (some (.int 1)) [(ic, .inr (5, [.ref o8, .ref oa, .ref fa, .ref sa, .int (nI kc), .int (nI (he + 1))])), (o8, .inr (1, [.ref b8, .int 0, .int ml, .int (nI nn)])), (b8, .inl (cy 1, mm, .inl bx)), (oa, .inl (cy 0, 60, .inl (upd oo k 113))), (fa, .inl (cy 0, 60, .inl (upd fi k (0)))), (sa, .inl (cy 0, 60, .inl (upd se k (0))))] := by
  refine zM_of (cc := cX1_readCommand) (maxL := 2) (ret := (some .boolean)) (by decide) rfl (Nat.le_of_ble_eq_true rfl) ?_
  intro p e s m below meth c A Q hend hx hb hml hr hts hown hlk hG hK hP hD hA hS ls hl
  have hown : s.vm.findClass RX1 = some m.cls := hown
  have in_RX1 : ∀ w ∈ u_ws RX1 TX1 6, w ∈ wsX1_readCommand := by decide +kernel
  have hl : lv_has ls 2 [(0, .ref ic), (1, .int (nI k))] := hl
  have hlt : he < nn := zqs_lt hc (by decide)
  have hb0 : bx he = 113 := by have h9 := hc; rw [zqs, if_pos hlt] at h9; exact h9
  refine lv_aload_n hx hb dX1_readCommand_0 rfl (lv_at hl 0 rfl) ?_
  refine va_get (D := D) (ci := 5) (v := .int (nI he)) (C := RX1) (T := TX1) (N := 6) hx hb hts in_RX1 hown hK hP 0 rfl rfl 5 (by decide) (hts _ (List.mem_of_getElem? (i := 1) rfl)) (fun _ h9 => h9) rfl dX1_readCommand_1 ?_
  refine lv_aload_n hx hb dX1_readCommand_4 rfl (lv_at hl 0 rfl) ?_
  refine va_get (D := D) (ci := 5) (v := .ref o8) (C := RX1) (T := TX1) (N := 6) hx hb hts in_RX1 hown hK hP 0 rfl rfl 0 (by decide) (hts _ (List.mem_of_getElem? (i := 2) rfl)) (fun _ h9 => h9) rfl dX1_readCommand_5 ?_
  refine zcV (As := []) (rest := [.int (nI he)]) [1] 1 hg.1.1 ⟨hx, hb, hml, hown, hts⟩ (c_J4_length_8abf5 hg.1 l D cy o8 b8 ml nn) (cwV 0 hts gX1_readCommand_J4_length_8abf5 rfl rfl rfl (by decide +kernel) ⟨Nat.le_of_ble_eq_true rfl, Nat.le_of_ble_eq_true rfl⟩) hG hK hP hD hS hA rfl rfl rfl rfl rfl rfl hl.1 rfl (Nat.le_of_ble_eq_true rfl) dX1_readCommand_8 ⟨Nat.zero_le _, Nat.zero_le _⟩ (fun H locs hP hD hS => ?_)
  have hP : va_P D vwCl [(ic, .inr (5, [.ref o8, .ref oa, .ref fa, .ref sa, .int (nI kc), .int (nI he)])), (o8, .inr (1, [.ref b8, .int 0, .int ml, .int (nI nn)])), (b8, .inl (cy 1, mm, .inl bx)), (oa, .inl (cy 0, 60, .inl oo)), (fa, .inl (cy 0, 60, .inl fi)), (sa, .inl (cy 0, 60, .inl se))] H := hP
  have hD : va_D A [(ic, .inr (5, [.ref o8, .ref oa, .ref fa, .ref sa, .int (nI kc), .int (nI he)])), (o8, .inr (1, [.ref b8, .int 0, .int ml, .int (nI nn)])), (b8, .inl (cy 1, mm, .inl bx)), (oa, .inl (cy 0, 60, .inl oo)), (fa, .inl (cy 0, 60, .inl fi)), (sa, .inl (cy 0, 60, .inl se))] := hD
  refine lv_icmp_ge (tgt := 33) hx hb dX1_readCommand_11 (by decide) (fun c_1 => ?_) (fun c_1 => ?_)
  · exact absurd ((nI_leI (by omega) (by omega)).mp c_1) (Nat.not_le.mpr hlt)
  · refine va_ldcS hx hb hown (hgl A s hG).1 dX1_readCommand_14 ?_
    refine lv_aload_n hx hb dX1_readCommand_16 rfl (lv_at hl 0 rfl) ?_
    refine va_get (D := D) (ci := 5) (v := .ref o8) (C := RX1) (T := TX1) (N := 6) hx hb hts in_RX1 hown hK hP 0 rfl rfl 0 (by decide) (hts _ (List.mem_of_getElem? (i := 2) rfl)) (fun _ h9 => h9) rfl dX1_readCommand_17 ?_
    refine lv_aload_n hx hb dX1_readCommand_20 rfl (lv_at hl 0 rfl) ?_
    refine va_get (D := D) (ci := 5) (v := .int (nI he)) (C := RX1) (T := TX1) (N := 6) hx hb hts in_RX1 hown hK hP 0 rfl rfl 5 (by decide) (hts _ (List.mem_of_getElem? (i := 1) rfl)) (fun _ h9 => h9) rfl dX1_readCommand_21 ?_
    refine zcV (As := [.int (nI he)]) (rest := [.ref ak]) [1, 2] 1 hg.1.1 ⟨hx, hb, hml, hown, hts⟩ (c_J4_charAt_5068e hg l D cy o8 b8 ml nn bx mm he (by first | assumption | omega) (by first | assumption | omega) (by first | assumption | omega) (by first | assumption | omega)) (cwV 1 hts gX1_readCommand_J4_charAt_5068e rfl rfl rfl (by decide +kernel) ⟨Nat.le_of_ble_eq_true rfl, Nat.le_of_ble_eq_true rfl⟩) hG hK hP hD hS hA rfl rfl rfl rfl rfl rfl hl.1 rfl (Nat.le_of_ble_eq_true rfl) dX1_readCommand_24 ⟨Nat.zero_le _, Nat.zero_le _⟩ (fun H locs hP hD hS => ?_)
    have hP : va_P D vwCl [(ic, .inr (5, [.ref o8, .ref oa, .ref fa, .ref sa, .int (nI kc), .int (nI he)])), (o8, .inr (1, [.ref b8, .int 0, .int ml, .int (nI nn)])), (b8, .inl (cy 1, mm, .inl bx)), (oa, .inl (cy 0, 60, .inl oo)), (fa, .inl (cy 0, 60, .inl fi)), (sa, .inl (cy 0, 60, .inl se))] H := hP
    have hD : va_D A [(ic, .inr (5, [.ref o8, .ref oa, .ref fa, .ref sa, .int (nI kc), .int (nI he)])), (o8, .inr (1, [.ref b8, .int 0, .int ml, .int (nI nn)])), (b8, .inl (cy 1, mm, .inl bx)), (oa, .inl (cy 0, 60, .inl oo)), (fa, .inl (cy 0, 60, .inl fi)), (sa, .inl (cy 0, 60, .inl se))] := hD
    refine z_top (y := 113) (hb0) ?_
    refine zcVK (C := RJ0) (As := [.int 113]) (rest := []) [] hg.1.1 ⟨hx, hb, hml, hown, hts⟩ (c_J0_indexOf_0f7a4 hg l D cy ak av 113 (by first | assumption | omega) (by decide) (by decide) (by decide)) (cwV 1 hts gX1_readCommand_J0_indexOf_0f7a4 rfl rfl rfl (by decide +kernel) ⟨Nat.le_of_ble_eq_true rfl, Nat.le_of_ble_eq_true rfl⟩) (hgl A s hG).2.1 hG hK hP hD hS hA rfl rfl rfl  rfl hl.1 rfl (Nat.le_of_ble_eq_true rfl) dX1_readCommand_27 ⟨Nat.zero_le _, Nat.zero_le _⟩ (fun H locs hP hD hS => ?_)
    have hP : va_P D vwCl [(ic, .inr (5, [.ref o8, .ref oa, .ref fa, .ref sa, .int (nI kc), .int (nI he)])), (o8, .inr (1, [.ref b8, .int 0, .int ml, .int (nI nn)])), (b8, .inl (cy 1, mm, .inl bx)), (oa, .inl (cy 0, 60, .inl oo)), (fa, .inl (cy 0, 60, .inl fi)), (sa, .inl (cy 0, 60, .inl se))] H := hP
    have hD : va_D A [(ic, .inr (5, [.ref o8, .ref oa, .ref fa, .ref sa, .int (nI kc), .int (nI he)])), (o8, .inr (1, [.ref b8, .int 0, .int ml, .int (nI nn)])), (b8, .inl (cy 1, mm, .inl bx)), (oa, .inl (cy 0, 60, .inl oo)), (fa, .inl (cy 0, 60, .inl fi)), (sa, .inl (cy 0, 60, .inl se))] := hD
    refine z_top (y := 12) (by decide) ?_
    refine lv_if_ge (tgt := 35) hx hb dX1_readCommand_30 (by decide) (fun c_2 => ?_) (fun c_2 => ?_)
    · refine lv_aload_n hx hb dX1_readCommand_35 rfl (lv_at hl 0 rfl) ?_
      refine va_get (D := D) (ci := 5) (v := .ref oa) (C := RX1) (T := TX1) (N := 6) hx hb hts in_RX1 hown hK hP 0 rfl rfl 1 (by decide) (hts _ (List.mem_of_getElem? (i := 3) rfl)) (fun _ h9 => h9) rfl dX1_readCommand_36 ?_
      refine lv_iload_n hx hb dX1_readCommand_39 rfl (lv_at hl 1 rfl) ?_
      refine lv_aload_n hx hb dX1_readCommand_40 rfl (lv_at hl 0 rfl) ?_
      refine va_get (D := D) (ci := 5) (v := .ref o8) (C := RX1) (T := TX1) (N := 6) hx hb hts in_RX1 hown hK hP 0 rfl rfl 0 (by decide) (hts _ (List.mem_of_getElem? (i := 2) rfl)) (fun _ h9 => h9) rfl dX1_readCommand_41 ?_
      refine lv_aload_n hx hb dX1_readCommand_44 rfl (lv_at hl 0 rfl) ?_
      refine va_get (D := D) (ci := 5) (v := .int (nI he)) (C := RX1) (T := TX1) (N := 6) hx hb hts in_RX1 hown hK hP 0 rfl rfl 5 (by decide) (hts _ (List.mem_of_getElem? (i := 1) rfl)) (fun _ h9 => h9) rfl dX1_readCommand_45 ?_
      refine zcV (As := [.int (nI he)]) (rest := [.int (nI k), .ref oa]) [1, 2] 1 hg.1.1 ⟨hx, hb, hml, hown, hts⟩ (c_J4_charAt_5068e hg l D cy o8 b8 ml nn bx mm he (by first | assumption | omega) (by first | assumption | omega) (by first | assumption | omega) (by first | assumption | omega)) (cwV 1 hts gX1_readCommand_J4_charAt_5068e rfl rfl rfl (by decide +kernel) ⟨Nat.le_of_ble_eq_true rfl, Nat.le_of_ble_eq_true rfl⟩) hG hK hP hD hS hA rfl rfl rfl rfl rfl rfl hl.1 rfl (Nat.le_of_ble_eq_true rfl) dX1_readCommand_48 ⟨Nat.zero_le _, Nat.zero_le _⟩ (fun H locs hP hD hS => ?_)
      have hP : va_P D vwCl [(ic, .inr (5, [.ref o8, .ref oa, .ref fa, .ref sa, .int (nI kc), .int (nI he)])), (o8, .inr (1, [.ref b8, .int 0, .int ml, .int (nI nn)])), (b8, .inl (cy 1, mm, .inl bx)), (oa, .inl (cy 0, 60, .inl oo)), (fa, .inl (cy 0, 60, .inl fi)), (sa, .inl (cy 0, 60, .inl se))] H := hP
      have hD : va_D A [(ic, .inr (5, [.ref o8, .ref oa, .ref fa, .ref sa, .int (nI kc), .int (nI he)])), (o8, .inr (1, [.ref b8, .int 0, .int ml, .int (nI nn)])), (b8, .inl (cy 1, mm, .inl bx)), (oa, .inl (cy 0, 60, .inl oo)), (fa, .inl (cy 0, 60, .inl fi)), (sa, .inl (cy 0, 60, .inl se))] := hD
      refine z_top (y := 113) (hb0) ?_
      refine ziast 3 0 k hx hb hK hP hD hS rfl rfl (by omega) (z_lt rfl) dX1_readCommand_51 (fun H locs hP hD hS => ?_)
      have hP : va_P D vwCl [(ic, .inr (5, [.ref o8, .ref oa, .ref fa, .ref sa, .int (nI kc), .int (nI he)])), (o8, .inr (1, [.ref b8, .int 0, .int ml, .int (nI nn)])), (b8, .inl (cy 1, mm, .inl bx)), (oa, .inl (cy 0, 60, .inl (upd oo k 113))), (fa, .inl (cy 0, 60, .inl fi)), (sa, .inl (cy 0, 60, .inl se))] H := hP
      have hD : va_D A [(ic, .inr (5, [.ref o8, .ref oa, .ref fa, .ref sa, .int (nI kc), .int (nI he)])), (o8, .inr (1, [.ref b8, .int 0, .int ml, .int (nI nn)])), (b8, .inl (cy 1, mm, .inl bx)), (oa, .inl (cy 0, 60, .inl (upd oo k 113))), (fa, .inl (cy 0, 60, .inl fi)), (sa, .inl (cy 0, 60, .inl se))] := hD
      refine lv_aload_n hx hb dX1_readCommand_52 rfl (lv_at hl 0 rfl) ?_
      refine va_get (D := D) (ci := 5) (v := .ref fa) (C := RX1) (T := TX1) (N := 6) hx hb hts in_RX1 hown hK hP 0 rfl rfl 2 (by decide) (hts _ (List.mem_of_getElem? (i := 4) rfl)) (fun _ h9 => h9) rfl dX1_readCommand_53 ?_
      refine lv_iload_n hx hb dX1_readCommand_56 rfl (lv_at hl 1 rfl) ?_
      refine lv_iconst (v := 0) hx hb dX1_readCommand_57 (by decide) ?_
      refine ziast 4 0 k hx hb hK hP hD hS rfl rfl (by omega) (z_lt rfl) dX1_readCommand_58 (fun H locs hP hD hS => ?_)
      have hP : va_P D vwCl [(ic, .inr (5, [.ref o8, .ref oa, .ref fa, .ref sa, .int (nI kc), .int (nI he)])), (o8, .inr (1, [.ref b8, .int 0, .int ml, .int (nI nn)])), (b8, .inl (cy 1, mm, .inl bx)), (oa, .inl (cy 0, 60, .inl (upd oo k 113))), (fa, .inl (cy 0, 60, .inl (upd fi k 0))), (sa, .inl (cy 0, 60, .inl se))] H := hP
      have hD : va_D A [(ic, .inr (5, [.ref o8, .ref oa, .ref fa, .ref sa, .int (nI kc), .int (nI he)])), (o8, .inr (1, [.ref b8, .int 0, .int ml, .int (nI nn)])), (b8, .inl (cy 1, mm, .inl bx)), (oa, .inl (cy 0, 60, .inl (upd oo k 113))), (fa, .inl (cy 0, 60, .inl (upd fi k 0))), (sa, .inl (cy 0, 60, .inl se))] := hD
      refine lv_aload_n hx hb dX1_readCommand_59 rfl (lv_at hl 0 rfl) ?_
      refine va_get (D := D) (ci := 5) (v := .ref sa) (C := RX1) (T := TX1) (N := 6) hx hb hts in_RX1 hown hK hP 0 rfl rfl 3 (by decide) (hts _ (List.mem_of_getElem? (i := 5) rfl)) (fun _ h9 => h9) rfl dX1_readCommand_60 ?_
      refine lv_iload_n hx hb dX1_readCommand_63 rfl (lv_at hl 1 rfl) ?_
      refine lv_iconst (v := 0) hx hb dX1_readCommand_64 (by decide) ?_
      refine ziast 5 0 k hx hb hK hP hD hS rfl rfl (by omega) (z_lt rfl) dX1_readCommand_65 (fun H locs hP hD hS => ?_)
      have hP : va_P D vwCl [(ic, .inr (5, [.ref o8, .ref oa, .ref fa, .ref sa, .int (nI kc), .int (nI he)])), (o8, .inr (1, [.ref b8, .int 0, .int ml, .int (nI nn)])), (b8, .inl (cy 1, mm, .inl bx)), (oa, .inl (cy 0, 60, .inl (upd oo k 113))), (fa, .inl (cy 0, 60, .inl (upd fi k 0))), (sa, .inl (cy 0, 60, .inl (upd se k 0)))] H := hP
      have hD : va_D A [(ic, .inr (5, [.ref o8, .ref oa, .ref fa, .ref sa, .int (nI kc), .int (nI he)])), (o8, .inr (1, [.ref b8, .int 0, .int ml, .int (nI nn)])), (b8, .inl (cy 1, mm, .inl bx)), (oa, .inl (cy 0, 60, .inl (upd oo k 113))), (fa, .inl (cy 0, 60, .inl (upd fi k 0))), (sa, .inl (cy 0, 60, .inl (upd se k 0)))] := hD
      refine lv_aload_n hx hb dX1_readCommand_66 rfl (lv_at hl 0 rfl) ?_
      refine lv_dup hx hb dX1_readCommand_67 rfl ?_
      refine va_get (D := D) (ci := 5) (v := .int (nI he)) (C := RX1) (T := TX1) (N := 6) hx hb hts in_RX1 hown hK hP 0 rfl rfl 5 (by decide) (hts _ (List.mem_of_getElem? (i := 1) rfl)) (fun _ h9 => h9) rfl dX1_readCommand_68 ?_
      refine lv_iconst (v := 1) hx hb dX1_readCommand_71 (by decide) ?_
      refine lv_iadd hx hb dX1_readCommand_72 ?_
      refine z_top (y := nI (he + 1)) (nI_add he 1) ?_
      refine va_put (D := D) (ci := 5) (v := .int (nI (he + 1))) (ty := .int) (C := RX1) (T := TX1) (N := 6) hx hb hts in_RX1 tyX1 tyX1_ok nmX1 hown hK hP hD hS 0 rfl rfl 5 (by decide) (hts _ (List.mem_of_getElem? (i := 1) rfl)) (fun _ h9 => h9) rfl (by decide +kernel) rfl rfl (Nat.le_of_ble_eq_true rfl) dX1_readCommand_73 (fun H locs hP hD hS => ?_)
      have hP : va_P D vwCl [(ic, .inr (5, [.ref o8, .ref oa, .ref fa, .ref sa, .int (nI kc), .int (nI (he + 1))])), (o8, .inr (1, [.ref b8, .int 0, .int ml, .int (nI nn)])), (b8, .inl (cy 1, mm, .inl bx)), (oa, .inl (cy 0, 60, .inl (upd oo k 113))), (fa, .inl (cy 0, 60, .inl (upd fi k 0))), (sa, .inl (cy 0, 60, .inl (upd se k 0)))] H := hP
      have hD : va_D A [(ic, .inr (5, [.ref o8, .ref oa, .ref fa, .ref sa, .int (nI kc), .int (nI (he + 1))])), (o8, .inr (1, [.ref b8, .int 0, .int ml, .int (nI nn)])), (b8, .inl (cy 1, mm, .inl bx)), (oa, .inl (cy 0, 60, .inl (upd oo k 113))), (fa, .inl (cy 0, 60, .inl (upd fi k 0))), (sa, .inl (cy 0, 60, .inl (upd se k 0)))] := hD
      refine lv_aload_n hx hb dX1_readCommand_76 rfl (lv_at hl 0 rfl) ?_
      refine va_get (D := D) (ci := 5) (v := .ref oa) (C := RX1) (T := TX1) (N := 6) hx hb hts in_RX1 hown hK hP 0 rfl rfl 1 (by decide) (hts _ (List.mem_of_getElem? (i := 3) rfl)) (fun _ h9 => h9) rfl dX1_readCommand_77 ?_
      refine lv_iload_n hx hb dX1_readCommand_80 rfl (lv_at hl 1 rfl) ?_
      refine ziald 3 0 k hx hb hK hP rfl rfl (by omega) (z_lt rfl) dX1_readCommand_81 ?_
      refine z_top (y := 113) (upd_s) ?_
      refine lv_tableIn (off := 106) (tgt := 188) hx hb dX1_readCommand_82 (by decide) (by decide) (by decide) (by decide) ?_
      refine lv_iconst (v := 1) hx hb dX1_readCommand_188 (by decide) ?_
      exact zzret hend hx hb hr hlk hK hP hD hS dX1_readCommand_189 rfl rfl (by simp only [upd_u])
    · exact absurd c_2 (by decide)

abbrev rmX1_readCommand_rbad : Room := { frames := 7, cells := 0, slots := 0, locals := 156 }
set_option maxHeartbeats 4000000 in
set_option maxRecDepth 100000 in
theorem c_X1_readCommand_rbad {G : zG} (hg : zGJ G) (l : Launch) (D : va_G) (cy : Nat → ClassId) (ic : Nat) (oa : Nat) (fa : Nat) (sa : Nat) (kc : Nat) (he : Nat) (o8 : Nat) (b8 : Nat) (ml : Int32) (nn : Nat) (bx : Nat → Int32) (mm : Nat) (ak : Nat) (av : Nat) (oo : Nat → Int32) (fi : Nat → Int32) (se : Nat → Int32) (k : Nat) (hhe : he ≤ 200) (hnm : nn ≤ mm) (hmm : mm ≤ 100) (hch : ∀ j, j < nn → zch (bx j)) (hgl : ∀ (A : Nat → Prop) (U : State), G A U → zLit ak av A U) (hk : k < 60) (hhe6 : he ≤ 60) (hn60 : nn ≤ 60) (has : ∀ i, i < nn → zas (bx i)) (hn : zqn (zqs bx nn he) = false) (hd : zid (zqs bx nn he) = false) (h120 : ¬ zqs bx nn he = 120) (h112 : ¬ zqs bx nn he = 112) (h113 : ¬ zqs bx nn he = 113) : zM G D vwCl (zT cy) l yX1_readCommand wsX1_readCommand rmX1_readCommand_rbad [.ref ic, .int (nI k)] [(ic, .inr (5, [.ref o8, .ref oa, .ref fa, .ref sa, .int (nI kc), .int (nI he)])), (o8, .inr (1, [.ref b8, .int 0, .int ml, .int (nI nn)])), (b8, .inl (cy 1, mm, .inl bx)), (oa, .inl (cy 0, 60, .inl oo)), (fa, .inl (cy 0, 60, .inl fi)), (sa, .inl (cy 0, 60, .inl se))] (some (.int 0)) [(ic, .inr (5, [.ref o8, .ref oa, .ref fa, .ref sa, .int (nI kc), .int (nI he)])), (o8, .inr (1, [.ref b8, .int 0, .int ml, .int (nI nn)])), (b8, .inl (cy 1, mm, .inl bx)), (oa, .inl (cy 0, 60, .inl oo)), (fa, .inl (cy 0, 60, .inl fi)), (sa, .inl (cy 0, 60, .inl se))] := by
  refine zM_of (cc := cX1_readCommand) (maxL := 2) (ret := (some .boolean)) (by decide) rfl (Nat.le_of_ble_eq_true rfl) ?_
  intro p e s m below meth c A Q hend hx hb hml hr hts hown hlk hG hK hP hD hA hS ls hl
  have hown : s.vm.findClass RX1 = some m.cls := hown
  have in_RX1 : ∀ w ∈ u_ws RX1 TX1 6, w ∈ wsX1_readCommand := by decide +kernel
  have hl : lv_has ls 2 [(0, .ref ic), (1, .int (nI k))] := hl
  refine lv_aload_n hx hb dX1_readCommand_0 rfl (lv_at hl 0 rfl) ?_
  refine va_get (D := D) (ci := 5) (v := .int (nI he)) (C := RX1) (T := TX1) (N := 6) hx hb hts in_RX1 hown hK hP 0 rfl rfl 5 (by decide) (hts _ (List.mem_of_getElem? (i := 1) rfl)) (fun _ h9 => h9) rfl dX1_readCommand_1 ?_
  refine lv_aload_n hx hb dX1_readCommand_4 rfl (lv_at hl 0 rfl) ?_
  refine va_get (D := D) (ci := 5) (v := .ref o8) (C := RX1) (T := TX1) (N := 6) hx hb hts in_RX1 hown hK hP 0 rfl rfl 0 (by decide) (hts _ (List.mem_of_getElem? (i := 2) rfl)) (fun _ h9 => h9) rfl dX1_readCommand_5 ?_
  refine zcV (As := []) (rest := [.int (nI he)]) [1] 1 hg.1.1 ⟨hx, hb, hml, hown, hts⟩ (c_J4_length_8abf5 hg.1 l D cy o8 b8 ml nn) (cwV 0 hts gX1_readCommand_J4_length_8abf5 rfl rfl rfl (by decide +kernel) ⟨Nat.le_of_ble_eq_true rfl, Nat.le_of_ble_eq_true rfl⟩) hG hK hP hD hS hA rfl rfl rfl rfl rfl rfl hl.1 rfl (Nat.le_of_ble_eq_true rfl) dX1_readCommand_8 ⟨Nat.zero_le _, Nat.zero_le _⟩ (fun H locs hP hD hS => ?_)
  have hP : va_P D vwCl [(ic, .inr (5, [.ref o8, .ref oa, .ref fa, .ref sa, .int (nI kc), .int (nI he)])), (o8, .inr (1, [.ref b8, .int 0, .int ml, .int (nI nn)])), (b8, .inl (cy 1, mm, .inl bx)), (oa, .inl (cy 0, 60, .inl oo)), (fa, .inl (cy 0, 60, .inl fi)), (sa, .inl (cy 0, 60, .inl se))] H := hP
  have hD : va_D A [(ic, .inr (5, [.ref o8, .ref oa, .ref fa, .ref sa, .int (nI kc), .int (nI he)])), (o8, .inr (1, [.ref b8, .int 0, .int ml, .int (nI nn)])), (b8, .inl (cy 1, mm, .inl bx)), (oa, .inl (cy 0, 60, .inl oo)), (fa, .inl (cy 0, 60, .inl fi)), (sa, .inl (cy 0, 60, .inl se))] := hD
  refine lv_icmp_ge (tgt := 33) hx hb dX1_readCommand_11 (by decide) (fun c_1 => ?_) (fun c_1 => ?_)
  · have hge : ¬ he < nn := Nat.not_lt.mpr ((nI_leI (by omega) (by omega)).mp c_1)
    have hqs : zqs bx nn he = -1 := by rw [zqs, if_neg hge]
    refine lv_iconst (v := 0) hx hb dX1_readCommand_33 (by decide) ?_
    exact zzret hend hx hb hr hlk hK hP hD hS dX1_readCommand_34 rfl rfl rfl
  · have hlt : he < nn := Nat.lt_of_not_le (fun z => c_1 (nI_le z (by omega)))
    have hqs : zqs bx nn he = bx he := by rw [zqs, if_pos hlt]
    refine va_ldcS hx hb hown (hgl A s hG).1 dX1_readCommand_14 ?_
    refine lv_aload_n hx hb dX1_readCommand_16 rfl (lv_at hl 0 rfl) ?_
    refine va_get (D := D) (ci := 5) (v := .ref o8) (C := RX1) (T := TX1) (N := 6) hx hb hts in_RX1 hown hK hP 0 rfl rfl 0 (by decide) (hts _ (List.mem_of_getElem? (i := 2) rfl)) (fun _ h9 => h9) rfl dX1_readCommand_17 ?_
    refine lv_aload_n hx hb dX1_readCommand_20 rfl (lv_at hl 0 rfl) ?_
    refine va_get (D := D) (ci := 5) (v := .int (nI he)) (C := RX1) (T := TX1) (N := 6) hx hb hts in_RX1 hown hK hP 0 rfl rfl 5 (by decide) (hts _ (List.mem_of_getElem? (i := 1) rfl)) (fun _ h9 => h9) rfl dX1_readCommand_21 ?_
    refine zcV (As := [.int (nI he)]) (rest := [.ref ak]) [1, 2] 1 hg.1.1 ⟨hx, hb, hml, hown, hts⟩ (c_J4_charAt_5068e hg l D cy o8 b8 ml nn bx mm he (by first | assumption | omega) (by first | assumption | omega) (by first | assumption | omega) (by first | assumption | omega)) (cwV 1 hts gX1_readCommand_J4_charAt_5068e rfl rfl rfl (by decide +kernel) ⟨Nat.le_of_ble_eq_true rfl, Nat.le_of_ble_eq_true rfl⟩) hG hK hP hD hS hA rfl rfl rfl rfl rfl rfl hl.1 rfl (Nat.le_of_ble_eq_true rfl) dX1_readCommand_24 ⟨Nat.zero_le _, Nat.zero_le _⟩ (fun H locs hP hD hS => ?_)
    have hP : va_P D vwCl [(ic, .inr (5, [.ref o8, .ref oa, .ref fa, .ref sa, .int (nI kc), .int (nI he)])), (o8, .inr (1, [.ref b8, .int 0, .int ml, .int (nI nn)])), (b8, .inl (cy 1, mm, .inl bx)), (oa, .inl (cy 0, 60, .inl oo)), (fa, .inl (cy 0, 60, .inl fi)), (sa, .inl (cy 0, 60, .inl se))] H := hP
    have hD : va_D A [(ic, .inr (5, [.ref o8, .ref oa, .ref fa, .ref sa, .int (nI kc), .int (nI he)])), (o8, .inr (1, [.ref b8, .int 0, .int ml, .int (nI nn)])), (b8, .inl (cy 1, mm, .inl bx)), (oa, .inl (cy 0, 60, .inl oo)), (fa, .inl (cy 0, 60, .inl fi)), (sa, .inl (cy 0, 60, .inl se))] := hD
    refine zcVK (C := RJ0) (As := [.int (bx he)]) (rest := []) [] hg.1.1 ⟨hx, hb, hml, hown, hts⟩ (c_J0_indexOf_0f7a4 hg l D cy ak av (bx he) (by first | assumption | exact (has he hlt).1 | exact (has he hlt).2.1 | exact (has he hlt).2.2) (by first | assumption | exact (has he hlt).1 | exact (has he hlt).2.1 | exact (has he hlt).2.2) (by first | assumption | exact (has he hlt).1 | exact (has he hlt).2.1 | exact (has he hlt).2.2) (by first | assumption | exact (has he hlt).1 | exact (has he hlt).2.1 | exact (has he hlt).2.2)) (cwV 1 hts gX1_readCommand_J0_indexOf_0f7a4 rfl rfl rfl (by decide +kernel) ⟨Nat.le_of_ble_eq_true rfl, Nat.le_of_ble_eq_true rfl⟩) (hgl A s hG).2.1 hG hK hP hD hS hA rfl rfl rfl  rfl hl.1 rfl (Nat.le_of_ble_eq_true rfl) dX1_readCommand_27 ⟨Nat.zero_le _, Nat.zero_le _⟩ (fun H locs hP hD hS => ?_)
    have hP : va_P D vwCl [(ic, .inr (5, [.ref o8, .ref oa, .ref fa, .ref sa, .int (nI kc), .int (nI he)])), (o8, .inr (1, [.ref b8, .int 0, .int ml, .int (nI nn)])), (b8, .inl (cy 1, mm, .inl bx)), (oa, .inl (cy 0, 60, .inl oo)), (fa, .inl (cy 0, 60, .inl fi)), (sa, .inl (cy 0, 60, .inl se))] H := hP
    have hD : va_D A [(ic, .inr (5, [.ref o8, .ref oa, .ref fa, .ref sa, .int (nI kc), .int (nI he)])), (o8, .inr (1, [.ref b8, .int 0, .int ml, .int (nI nn)])), (b8, .inl (cy 1, mm, .inl bx)), (oa, .inl (cy 0, 60, .inl oo)), (fa, .inl (cy 0, 60, .inl fi)), (sa, .inl (cy 0, 60, .inl se))] := hD
    refine z_top (y := (-1)) (by rw [← hqs]; exact (zix_bad hn hd h120 h112 h113)) ?_
    refine lv_if_ge (tgt := 35) hx hb dX1_readCommand_30 (by decide) (fun c_2 => ?_) (fun c_2 => ?_)
    · exact absurd c_2 (by decide)
    · refine lv_iconst (v := 0) hx hb dX1_readCommand_33 (by decide) ?_
      exact zzret hend hx hb hr hlk hK hP hD hS dX1_readCommand_34 rfl rfl rfl

def zgFk (xq : Int32) (tx : Nat → Int32) (en h : Nat) (k : Nat) (f : Nat → Int32) : Nat → Int32 := if xq = 99 then upd f k (zNu tx en 2 (h + 1)) else if xq = 121 then upd f k (zNu tx en 1 (h + 1)) else if xq = 112 then upd f k (zkM tx en 8 (h + 1) 0 0) else if xq = 120 ∨ xq = 113 then upd f k (0) else if zid xq = true then upd f k (zNu tx en 1 (h + 1)) else if zqn xq = true then upd f k (zNu tx en 2 (h + 1)) else f
def zgSk (xq : Int32) (tx : Nat → Int32) (en h : Nat) (k : Nat) (f : Nat → Int32) : Nat → Int32 := if xq = 99 then upd f k (zs2 tx en ((h + 1) + zdN tx en 2 (h + 1)) (decide (zdN tx en 2 (h + 1) = 0)) 45) else if xq = 121 then upd f k (zs2 tx en ((h + 1) + zdN tx en 1 (h + 1)) (decide (zdN tx en 1 (h + 1) = 0)) 61) else if xq = 112 then upd f k (0) else if xq = 120 ∨ xq = 113 then upd f k (0) else if zid xq = true then upd f k (0) else if zqn xq = true then upd f k (0) else f
def zgOk (xq : Int32) (k : Nat) (f : Nat → Int32) : Nat → Int32 := if xq = 99 then upd f k xq else if xq = 121 then upd f k xq else if xq = 112 then upd f k xq else if xq = 120 ∨ xq = 113 then upd f k xq else if zid xq = true then upd f k xq else if zqn xq = true then upd f k xq else f
def zgF (tx : Nat → Int32) (en h k : Nat) (f : Nat → Int32) : Nat → Int32 := zgFk (zqs tx en h) tx en h k f
def zgS (tx : Nat → Int32) (en h k : Nat) (f : Nat → Int32) : Nat → Int32 := zgSk (zqs tx en h) tx en h k f
def zgO (tx : Nat → Int32) (en h k : Nat) (f : Nat → Int32) : Nat → Int32 := zgOk (zqs tx en h) k f
theorem zgF_99 {bx : Nat → Int32} {nn he k : Nat} {f : Nat → Int32} (hc : zqs bx nn he = 99) : zgF bx nn he k f = upd f k (zNu bx nn 2 (he + 1)) := by rw [zgF, hc, zgFk, if_pos rfl]
theorem zgS_99 {bx : Nat → Int32} {nn he k : Nat} {f : Nat → Int32} (hc : zqs bx nn he = 99) : zgS bx nn he k f = upd f k (zs2 bx nn ((he + 1) + zdN bx nn 2 (he + 1)) (decide (zdN bx nn 2 (he + 1) = 0)) 45) := by rw [zgS, hc, zgSk, if_pos rfl]
theorem zgO_99 {bx : Nat → Int32} {nn he k : Nat} {f : Nat → Int32} (hc : zqs bx nn he = 99) : zgO bx nn he k f = upd f k 99 := by rw [zgO, hc, zgOk, if_pos rfl]
theorem zgF_104 {bx : Nat → Int32} {nn he k : Nat} {f : Nat → Int32} (hc : zqs bx nn he = 104) : zgF bx nn he k f = upd f k (zNu bx nn 2 (he + 1)) := by rw [zgF, hc]; first | rfl | simp [zgFk, zid, zqn]
theorem zgS_104 {bx : Nat → Int32} {nn he k : Nat} {f : Nat → Int32} (hc : zqs bx nn he = 104) : zgS bx nn he k f = upd f k (0) := by rw [zgS, hc]; first | rfl | simp [zgSk, zid, zqn]
theorem zgO_104 {bx : Nat → Int32} {nn he k : Nat} {f : Nat → Int32} (hc : zqs bx nn he = 104) : zgO bx nn he k f = upd f k 104 := by rw [zgO, hc]; first | rfl | simp [zgOk, zid, zqn]
theorem zgF_114 {bx : Nat → Int32} {nn he k : Nat} {f : Nat → Int32} (hc : zqs bx nn he = 114) : zgF bx nn he k f = upd f k (zNu bx nn 2 (he + 1)) := by rw [zgF, hc]; first | rfl | simp [zgFk, zid, zqn]
theorem zgS_114 {bx : Nat → Int32} {nn he k : Nat} {f : Nat → Int32} (hc : zqs bx nn he = 114) : zgS bx nn he k f = upd f k (0) := by rw [zgS, hc]; first | rfl | simp [zgSk, zid, zqn]
theorem zgO_114 {bx : Nat → Int32} {nn he k : Nat} {f : Nat → Int32} (hc : zqs bx nn he = 114) : zgO bx nn he k f = upd f k 114 := by rw [zgO, hc]; first | rfl | simp [zgOk, zid, zqn]
theorem zgF_100 {bx : Nat → Int32} {nn he k : Nat} {f : Nat → Int32} (hc : zqs bx nn he = 100) : zgF bx nn he k f = upd f k (zNu bx nn 2 (he + 1)) := by rw [zgF, hc]; first | rfl | simp [zgFk, zid, zqn]
theorem zgS_100 {bx : Nat → Int32} {nn he k : Nat} {f : Nat → Int32} (hc : zqs bx nn he = 100) : zgS bx nn he k f = upd f k (0) := by rw [zgS, hc]; first | rfl | simp [zgSk, zid, zqn]
theorem zgO_100 {bx : Nat → Int32} {nn he k : Nat} {f : Nat → Int32} (hc : zqs bx nn he = 100) : zgO bx nn he k f = upd f k 100 := by rw [zgO, hc]; first | rfl | simp [zgOk, zid, zqn]
theorem zgF_117 {bx : Nat → Int32} {nn he k : Nat} {f : Nat → Int32} (hc : zqs bx nn he = 117) : zgF bx nn he k f = upd f k (zNu bx nn 2 (he + 1)) := by rw [zgF, hc]; first | rfl | simp [zgFk, zid, zqn]
theorem zgS_117 {bx : Nat → Int32} {nn he k : Nat} {f : Nat → Int32} (hc : zqs bx nn he = 117) : zgS bx nn he k f = upd f k (0) := by rw [zgS, hc]; first | rfl | simp [zgSk, zid, zqn]
theorem zgO_117 {bx : Nat → Int32} {nn he k : Nat} {f : Nat → Int32} (hc : zqs bx nn he = 117) : zgO bx nn he k f = upd f k 117 := by rw [zgO, hc]; first | rfl | simp [zgOk, zid, zqn]
theorem zgF_108 {bx : Nat → Int32} {nn he k : Nat} {f : Nat → Int32} (hc : zqs bx nn he = 108) : zgF bx nn he k f = upd f k (zNu bx nn 2 (he + 1)) := by rw [zgF, hc]; first | rfl | simp [zgFk, zid, zqn]
theorem zgS_108 {bx : Nat → Int32} {nn he k : Nat} {f : Nat → Int32} (hc : zqs bx nn he = 108) : zgS bx nn he k f = upd f k (0) := by rw [zgS, hc]; first | rfl | simp [zgSk, zid, zqn]
theorem zgO_108 {bx : Nat → Int32} {nn he k : Nat} {f : Nat → Int32} (hc : zqs bx nn he = 108) : zgO bx nn he k f = upd f k 108 := by rw [zgO, hc]; first | rfl | simp [zgOk, zid, zqn]
theorem zgF_103 {bx : Nat → Int32} {nn he k : Nat} {f : Nat → Int32} (hc : zqs bx nn he = 103) : zgF bx nn he k f = upd f k (zNu bx nn 2 (he + 1)) := by rw [zgF, hc]; first | rfl | simp [zgFk, zid, zqn]
theorem zgS_103 {bx : Nat → Int32} {nn he k : Nat} {f : Nat → Int32} (hc : zqs bx nn he = 103) : zgS bx nn he k f = upd f k (0) := by rw [zgS, hc]; first | rfl | simp [zgSk, zid, zqn]
theorem zgO_103 {bx : Nat → Int32} {nn he k : Nat} {f : Nat → Int32} (hc : zqs bx nn he = 103) : zgO bx nn he k f = upd f k 103 := by rw [zgO, hc]; first | rfl | simp [zgOk, zid, zqn]
theorem zgF_107 {bx : Nat → Int32} {nn he k : Nat} {f : Nat → Int32} (hc : zqs bx nn he = 107) : zgF bx nn he k f = upd f k (zNu bx nn 2 (he + 1)) := by rw [zgF, hc]; first | rfl | simp [zgFk, zid, zqn]
theorem zgS_107 {bx : Nat → Int32} {nn he k : Nat} {f : Nat → Int32} (hc : zqs bx nn he = 107) : zgS bx nn he k f = upd f k (0) := by rw [zgS, hc]; first | rfl | simp [zgSk, zid, zqn]
theorem zgO_107 {bx : Nat → Int32} {nn he k : Nat} {f : Nat → Int32} (hc : zqs bx nn he = 107) : zgO bx nn he k f = upd f k 107 := by rw [zgO, hc]; first | rfl | simp [zgOk, zid, zqn]
theorem zgF_121 {bx : Nat → Int32} {nn he k : Nat} {f : Nat → Int32} (hc : zqs bx nn he = 121) : zgF bx nn he k f = upd f k (zNu bx nn 1 (he + 1)) := by rw [zgF, hc]; first | rfl | simp [zgFk, zid, zqn]
theorem zgS_121 {bx : Nat → Int32} {nn he k : Nat} {f : Nat → Int32} (hc : zqs bx nn he = 121) : zgS bx nn he k f = upd f k (zs2 bx nn ((he + 1) + zdN bx nn 1 (he + 1)) (decide (zdN bx nn 1 (he + 1) = 0)) 61) := by rw [zgS, hc]; first | rfl | simp [zgSk, zid, zqn]
theorem zgO_121 {bx : Nat → Int32} {nn he k : Nat} {f : Nat → Int32} (hc : zqs bx nn he = 121) : zgO bx nn he k f = upd f k 121 := by rw [zgO, hc]; first | rfl | simp [zgOk, zid, zqn]
theorem zgF_102 {bx : Nat → Int32} {nn he k : Nat} {f : Nat → Int32} (hc : zqs bx nn he = 102) : zgF bx nn he k f = upd f k (zNu bx nn 1 (he + 1)) := by rw [zgF, hc]; first | rfl | simp [zgFk, zid, zqn]
theorem zgS_102 {bx : Nat → Int32} {nn he k : Nat} {f : Nat → Int32} (hc : zqs bx nn he = 102) : zgS bx nn he k f = upd f k (0) := by rw [zgS, hc]; first | rfl | simp [zgSk, zid, zqn]
theorem zgO_102 {bx : Nat → Int32} {nn he k : Nat} {f : Nat → Int32} (hc : zqs bx nn he = 102) : zgO bx nn he k f = upd f k 102 := by rw [zgO, hc]; first | rfl | simp [zgOk, zid, zqn]
theorem zgF_116 {bx : Nat → Int32} {nn he k : Nat} {f : Nat → Int32} (hc : zqs bx nn he = 116) : zgF bx nn he k f = upd f k (zNu bx nn 1 (he + 1)) := by rw [zgF, hc]; first | rfl | simp [zgFk, zid, zqn]
theorem zgS_116 {bx : Nat → Int32} {nn he k : Nat} {f : Nat → Int32} (hc : zqs bx nn he = 116) : zgS bx nn he k f = upd f k (0) := by rw [zgS, hc]; first | rfl | simp [zgSk, zid, zqn]
theorem zgO_116 {bx : Nat → Int32} {nn he k : Nat} {f : Nat → Int32} (hc : zqs bx nn he = 116) : zgO bx nn he k f = upd f k 116 := by rw [zgO, hc]; first | rfl | simp [zgOk, zid, zqn]
theorem zgF_112 {bx : Nat → Int32} {nn he k : Nat} {f : Nat → Int32} (hc : zqs bx nn he = 112) : zgF bx nn he k f = upd f k (zkM bx nn 8 (he + 1) 0 0) := by rw [zgF, hc]; first | rfl | simp [zgFk, zid, zqn]
theorem zgS_112 {bx : Nat → Int32} {nn he k : Nat} {f : Nat → Int32} (hc : zqs bx nn he = 112) : zgS bx nn he k f = upd f k (0) := by rw [zgS, hc]; first | rfl | simp [zgSk, zid, zqn]
theorem zgO_112 {bx : Nat → Int32} {nn he k : Nat} {f : Nat → Int32} (hc : zqs bx nn he = 112) : zgO bx nn he k f = upd f k 112 := by rw [zgO, hc]; first | rfl | simp [zgOk, zid, zqn]
theorem zgF_120 {bx : Nat → Int32} {nn he k : Nat} {f : Nat → Int32} (hc : zqs bx nn he = 120) : zgF bx nn he k f = upd f k (0) := by rw [zgF, hc]; first | rfl | simp [zgFk, zid, zqn]
theorem zgS_120 {bx : Nat → Int32} {nn he k : Nat} {f : Nat → Int32} (hc : zqs bx nn he = 120) : zgS bx nn he k f = upd f k (0) := by rw [zgS, hc]; first | rfl | simp [zgSk, zid, zqn]
theorem zgO_120 {bx : Nat → Int32} {nn he k : Nat} {f : Nat → Int32} (hc : zqs bx nn he = 120) : zgO bx nn he k f = upd f k 120 := by rw [zgO, hc]; first | rfl | simp [zgOk, zid, zqn]
theorem zgF_113 {bx : Nat → Int32} {nn he k : Nat} {f : Nat → Int32} (hc : zqs bx nn he = 113) : zgF bx nn he k f = upd f k (0) := by rw [zgF, hc]; first | rfl | simp [zgFk, zid, zqn]
theorem zgS_113 {bx : Nat → Int32} {nn he k : Nat} {f : Nat → Int32} (hc : zqs bx nn he = 113) : zgS bx nn he k f = upd f k (0) := by rw [zgS, hc]; first | rfl | simp [zgSk, zid, zqn]
theorem zgO_113 {bx : Nat → Int32} {nn he k : Nat} {f : Nat → Int32} (hc : zqs bx nn he = 113) : zgO bx nn he k f = upd f k 113 := by rw [zgO, hc]; first | rfl | simp [zgOk, zid, zqn]
theorem zgF_bad {bx : Nat → Int32} {nn he k : Nat} {f : Nat → Int32} (hn : zqn (zqs bx nn he) = false) (hd : zid (zqs bx nn he) = false) (h120 : ¬ zqs bx nn he = 120) (h112 : ¬ zqs bx nn he = 112) (h113 : ¬ zqs bx nn he = 113) : zgF bx nn he k f = f := by rw [zgF]; simp only [zgFk, hn, hd, h120, h112, h113, z99_n hn, z121_n hd, or_self, Bool.false_eq_true, ↓reduceIte]
theorem zgS_bad {bx : Nat → Int32} {nn he k : Nat} {f : Nat → Int32} (hn : zqn (zqs bx nn he) = false) (hd : zid (zqs bx nn he) = false) (h120 : ¬ zqs bx nn he = 120) (h112 : ¬ zqs bx nn he = 112) (h113 : ¬ zqs bx nn he = 113) : zgS bx nn he k f = f := by rw [zgS]; simp only [zgSk, hn, hd, h120, h112, h113, z99_n hn, z121_n hd, or_self, Bool.false_eq_true, ↓reduceIte]
theorem zgO_bad {bx : Nat → Int32} {nn he k : Nat} {f : Nat → Int32} (hn : zqn (zqs bx nn he) = false) (hd : zid (zqs bx nn he) = false) (h120 : ¬ zqs bx nn he = 120) (h112 : ¬ zqs bx nn he = 112) (h113 : ¬ zqs bx nn he = 113) : zgO bx nn he k f = f := by rw [zgO]; simp only [zgOk, hn, hd, h120, h112, h113, z99_n hn, z121_n hd, or_self, Bool.false_eq_true, ↓reduceIte]
set_option maxRecDepth 100000 in
theorem c_X1_readCommand_any {G : zG} (hg : zGJ G) (l : Launch) (D : va_G) (cy : Nat → ClassId) (ic : Nat) (oa : Nat) (fa : Nat) (sa : Nat) (kc : Nat) (he : Nat) (o8 : Nat) (b8 : Nat) (ml : Int32) (nn : Nat) (bx : Nat → Int32) (mm : Nat) (ak : Nat) (av : Nat) (oo : Nat → Int32) (fi : Nat → Int32) (se : Nat → Int32) (k : Nat) (hhe : he ≤ 200) (hnm : nn ≤ mm) (hmm : mm ≤ 100) (hch : ∀ j, j < nn → zch (bx j)) (hgl : ∀ (A : Nat → Prop) (U : State), G A U → zLit ak av A U) (hk : k < 60) (hhe6 : he ≤ 60) (hn60 : nn ≤ 60) (has : ∀ i, i < nn → zas (bx i)) : zM G D vwCl (zT cy) l yX1_readCommand wsX1_readCommand { frames := 7, cells := 0, slots := 0, locals := 156 } [.ref ic, .int (nI k)] [(ic, .inr (5, [.ref o8, .ref oa, .ref fa, .ref sa, .int (nI kc), .int (nI he)])), (o8, .inr (1, [.ref b8, .int 0, .int ml, .int (nI nn)])), (b8, .inl (cy 1, mm, .inl bx)), (oa, .inl (cy 0, 60, .inl oo)), (fa, .inl (cy 0, 60, .inl fi)), (sa, .inl (cy 0, 60, .inl se))] (some (.int (zI (!(zcW bx nn he))))) [(ic, .inr (5, [.ref o8, .ref oa, .ref fa, .ref sa, .int (nI kc), .int (nI (zcH bx nn he))])), (o8, .inr (1, [.ref b8, .int 0, .int ml, .int (nI nn)])), (b8, .inl (cy 1, mm, .inl bx)), (oa, .inl (cy 0, 60, .inl (zgO bx nn he k oo))), (fa, .inl (cy 0, 60, .inl (zgF bx nn he k fi))), (sa, .inl (cy 0, 60, .inl (zgS bx nn he k se)))] := by
  by_cases h99 : zqs bx nn he = 99
  · rw [zcH_99 h99, zcW_99 h99, zgO_99 h99, zgF_99 h99, zgS_99 h99]
    exact c_X1_readCommand_r99 hg l D cy ic oa fa sa kc he o8 b8 ml nn bx mm ak av oo fi se k hhe hnm hmm hch hgl hk hhe6 h99
  by_cases h104 : zqs bx nn he = 104
  · rw [zcH_104 h104, zcW_104 h104, zgO_104 h104, zgF_104 h104, zgS_104 h104]
    exact c_X1_readCommand_r104 hg l D cy ic oa fa sa kc he o8 b8 ml nn bx mm ak av oo fi se k hhe hnm hmm hch hgl hk hhe6 h104
  by_cases h114 : zqs bx nn he = 114
  · rw [zcH_114 h114, zcW_114 h114, zgO_114 h114, zgF_114 h114, zgS_114 h114]
    exact c_X1_readCommand_r114 hg l D cy ic oa fa sa kc he o8 b8 ml nn bx mm ak av oo fi se k hhe hnm hmm hch hgl hk hhe6 h114
  by_cases h100 : zqs bx nn he = 100
  · rw [zcH_100 h100, zcW_100 h100, zgO_100 h100, zgF_100 h100, zgS_100 h100]
    exact c_X1_readCommand_r100 hg l D cy ic oa fa sa kc he o8 b8 ml nn bx mm ak av oo fi se k hhe hnm hmm hch hgl hk hhe6 h100
  by_cases h117 : zqs bx nn he = 117
  · rw [zcH_117 h117, zcW_117 h117, zgO_117 h117, zgF_117 h117, zgS_117 h117]
    exact c_X1_readCommand_r117 hg l D cy ic oa fa sa kc he o8 b8 ml nn bx mm ak av oo fi se k hhe hnm hmm hch hgl hk hhe6 h117
  by_cases h108 : zqs bx nn he = 108
  · rw [zcH_108 h108, zcW_108 h108, zgO_108 h108, zgF_108 h108, zgS_108 h108]
    exact c_X1_readCommand_r108 hg l D cy ic oa fa sa kc he o8 b8 ml nn bx mm ak av oo fi se k hhe hnm hmm hch hgl hk hhe6 h108
  by_cases h103 : zqs bx nn he = 103
  · rw [zcH_103 h103, zcW_103 h103, zgO_103 h103, zgF_103 h103, zgS_103 h103]
    exact c_X1_readCommand_r103 hg l D cy ic oa fa sa kc he o8 b8 ml nn bx mm ak av oo fi se k hhe hnm hmm hch hgl hk hhe6 h103
  by_cases h107 : zqs bx nn he = 107
  · rw [zcH_107 h107, zcW_107 h107, zgO_107 h107, zgF_107 h107, zgS_107 h107]
    exact c_X1_readCommand_r107 hg l D cy ic oa fa sa kc he o8 b8 ml nn bx mm ak av oo fi se k hhe hnm hmm hch hgl hk hhe6 h107
  by_cases h121 : zqs bx nn he = 121
  · rw [zcH_121 h121, zcW_121 h121, zgO_121 h121, zgF_121 h121, zgS_121 h121]
    exact c_X1_readCommand_r121 hg l D cy ic oa fa sa kc he o8 b8 ml nn bx mm ak av oo fi se k hhe hnm hmm hch hgl hk hhe6 h121
  by_cases h102 : zqs bx nn he = 102
  · rw [zcH_102 h102, zcW_102 h102, zgO_102 h102, zgF_102 h102, zgS_102 h102]
    exact c_X1_readCommand_r102 hg l D cy ic oa fa sa kc he o8 b8 ml nn bx mm ak av oo fi se k hhe hnm hmm hch hgl hk hhe6 h102
  by_cases h116 : zqs bx nn he = 116
  · rw [zcH_116 h116, zcW_116 h116, zgO_116 h116, zgF_116 h116, zgS_116 h116]
    exact c_X1_readCommand_r116 hg l D cy ic oa fa sa kc he o8 b8 ml nn bx mm ak av oo fi se k hhe hnm hmm hch hgl hk hhe6 h116
  by_cases h112 : zqs bx nn he = 112
  · rw [zcH_112 h112, zcW_112 h112, zgO_112 h112, zgF_112 h112, zgS_112 h112]
    exact c_X1_readCommand_r112 hg l D cy ic oa fa sa kc he o8 b8 ml nn bx mm ak av oo fi se k hhe hnm hmm hch hgl hk hhe6 h112
  by_cases h120 : zqs bx nn he = 120
  · rw [zcH_120 h120, zcW_120 h120, zgO_120 h120, zgF_120 h120, zgS_120 h120]
    exact c_X1_readCommand_r120 hg l D cy ic oa fa sa kc he o8 b8 ml nn bx mm ak av oo fi se k hhe hnm hmm hch hgl hk hhe6 h120
  by_cases h113 : zqs bx nn he = 113
  · rw [zcH_113 h113, zcW_113 h113, zgO_113 h113, zgF_113 h113, zgS_113 h113]
    exact c_X1_readCommand_r113 hg l D cy ic oa fa sa kc he o8 b8 ml nn bx mm ak av oo fi se k hhe hnm hmm hch hgl hk hhe6 h113
  have hn : zqn (zqs bx nn he) = false := by simp [zqn, h99, h104, h114, h100, h117, h108, h103, h107]
  have hd : zid (zqs bx nn he) = false := by simp [zid, h121, h102, h116]
  rw [zcH_bad hn hd h120 h112 h113, zcW_bad hn hd h120 h112 h113, zgO_bad hn hd h120 h112 h113, zgF_bad hn hd h120 h112 h113, zgS_bad hn hd h120 h112 h113]
  exact c_X1_readCommand_rbad hg l D cy ic oa fa sa kc he o8 b8 ml nn bx mm ak av oo fi se k hhe hnm hmm hch hgl hk hhe6 hn60 has hn hd h120 h112 h113
/-- where the orders begin -/
def zhs (tx : Nat → Int32) (en : Nat) : Nat → Nat
  | 0 => 0
  | i + 1 => zcH tx en (zhs tx en i) + 1
def zaO (f tx : Nat → Int32) (en : Nat) : Nat → (Nat → Int32)
  | 0 => f
  | k + 1 => zgO tx en (zhs tx en k) k (zaO f tx en k)
def zaF (f tx : Nat → Int32) (en : Nat) : Nat → (Nat → Int32)
  | 0 => f
  | k + 1 => zgF tx en (zhs tx en k) k (zaF f tx en k)
def zaS (f tx : Nat → Int32) (en : Nat) : Nat → (Nat → Int32)
  | 0 => f
  | k + 1 => zgS tx en (zhs tx en k) k (zaS f tx en k)
abbrev rmX1_read_ok : Room := { frames := 8, cells := 0, slots := 0, locals := 177 }
set_option maxHeartbeats 4000000 in
set_option maxRecDepth 100000 in
theorem c_X1_read_ok {G : zG} (hg : zGJ G) (l : Launch) (D : va_G) (cy : Nat → ClassId) (ic : Nat) (oa : Nat) (fa : Nat) (sa : Nat) (kc : Nat) (he : Nat) (o8 : Nat) (b8 : Nat) (ml : Int32) (nn : Nat) (bx : Nat → Int32) (mm : Nat) (ak : Nat) (av : Nat) (oo : Nat → Int32) (fi : Nat → Int32) (se : Nat → Int32) (mq : Nat) (hgl : ∀ (A : Nat → Prop) (U : State), G A U → zLit ak av A U) (hnm : nn ≤ mm) (hmm : mm ≤ 100) (hch : ∀ j, j < nn → zch (bx j)) (hn60 : nn ≤ 60) (has : ∀ i, i < nn → zas (bx i)) (hmq : mq < 60) (h6 : ∀ i, i ≤ mq → zhs bx nn i ≤ nn) (hWi : ∀ i, i < mq → zcW bx nn (zhs bx nn i) = false) (hGi : ∀ i, i < mq → zqs bx nn (zcH bx nn (zhs bx nn i)) = 59) (hWa : ∀ i, i ≤ mq → zcW bx nn (zhs bx nn i) = false) (hE : ¬ zcH bx nn (zhs bx nn mq) < nn) : zM G D vwCl (zT cy) l yX1_read wsX1_read rmX1_read_ok [.ref ic] [(ic, .inr (5, [.ref o8, .ref oa, .ref fa, .ref sa, .int (nI kc), .int (nI he)])), (o8, .inr (1, [.ref b8, .int 0, .int ml, .int (nI nn)])), (b8, .inl (cy 1, mm, .inl bx)), (oa, .inl (cy 0, 60, .inl oo)), (fa, .inl (cy 0, 60, .inl fi)), (sa, .inl (cy 0, 60, .inl se))] (some (.int 1)) [(ic, .inr (5, [.ref o8, .ref oa, .ref fa, .ref sa, .int (nI (mq + 1)), .int (nI (zcH bx nn (zhs bx nn mq)))])), (o8, .inr (1, [.ref b8, .int 0, .int ml, .int (nI nn)])), (b8, .inl (cy 1, mm, .inl bx)), (oa, .inl (cy 0, 60, .inl (zaO oo bx nn (mq + 1)))), (fa, .inl (cy 0, 60, .inl (zaF fi bx nn (mq + 1)))), (sa, .inl (cy 0, 60, .inl (zaS se bx nn (mq + 1))))] := by
  refine zM_of (cc := cX1_read) (maxL := 1) (ret := (some .boolean)) (by decide) rfl (Nat.le_of_ble_eq_true rfl) ?_
  intro p e s m below meth c A Q hend hx hb hml hr hts hown hlk hG hK hP hD hA hS ls hl
  have hown : s.vm.findClass RX1 = some m.cls := hown
  have in_RX1 : ∀ w ∈ u_ws RX1 TX1 6, w ∈ wsX1_read := by decide +kernel
  have hl : lv_has ls 1 [(0, .ref ic)] := hl
  refine lv_aload_n hx hb dX1_read_0 rfl (lv_at hl 0 rfl) ?_
  refine lv_iconst (v := 0) hx hb dX1_read_1 (by decide) ?_
  refine z_top (y := nI (zhs bx nn 0)) (rfl) ?_
  refine va_put (D := D) (ci := 5) (v := .int (nI (zhs bx nn 0))) (ty := .int) (C := RX1) (T := TX1) (N := 6) hx hb hts in_RX1 tyX1 tyX1_ok nmX1 hown hK hP hD hS 0 rfl rfl 5 (by decide) (hts _ (List.mem_of_getElem? (i := 1) rfl)) (fun _ h9 => h9) rfl (by decide +kernel) rfl rfl (Nat.le_of_ble_eq_true rfl) dX1_read_2 (fun H locs hP hD hS => ?_)
  have hP : va_P D vwCl [(ic, .inr (5, [.ref o8, .ref oa, .ref fa, .ref sa, .int (nI kc), .int (nI (zhs bx nn 0))])), (o8, .inr (1, [.ref b8, .int 0, .int ml, .int (nI nn)])), (b8, .inl (cy 1, mm, .inl bx)), (oa, .inl (cy 0, 60, .inl oo)), (fa, .inl (cy 0, 60, .inl fi)), (sa, .inl (cy 0, 60, .inl se))] H := hP
  have hD : va_D A [(ic, .inr (5, [.ref o8, .ref oa, .ref fa, .ref sa, .int (nI kc), .int (nI (zhs bx nn 0))])), (o8, .inr (1, [.ref b8, .int 0, .int ml, .int (nI nn)])), (b8, .inl (cy 1, mm, .inl bx)), (oa, .inl (cy 0, 60, .inl oo)), (fa, .inl (cy 0, 60, .inl fi)), (sa, .inl (cy 0, 60, .inl se))] := hD
  refine lv_aload_n hx hb dX1_read_5 rfl (lv_at hl 0 rfl) ?_
  refine lv_iconst (v := 0) hx hb dX1_read_6 (by decide) ?_
  refine z_top (y := nI 0) (rfl) ?_
  refine va_put (D := D) (ci := 5) (v := .int (nI 0)) (ty := .int) (C := RX1) (T := TX1) (N := 6) hx hb hts in_RX1 tyX1 tyX1_ok nmX1 hown hK hP hD hS 0 rfl rfl 4 (by decide) (hts _ (List.mem_of_getElem? (i := 2) rfl)) (fun _ h9 => h9) rfl (by decide +kernel) rfl rfl (Nat.le_of_ble_eq_true rfl) dX1_read_7 (fun H locs hP hD hS => ?_)
  have hP : va_P D vwCl [(ic, .inr (5, [.ref o8, .ref oa, .ref fa, .ref sa, .int (nI 0), .int (nI (zhs bx nn 0))])), (o8, .inr (1, [.ref b8, .int 0, .int ml, .int (nI nn)])), (b8, .inl (cy 1, mm, .inl bx)), (oa, .inl (cy 0, 60, .inl oo)), (fa, .inl (cy 0, 60, .inl fi)), (sa, .inl (cy 0, 60, .inl se))] H := hP
  have hD : va_D A [(ic, .inr (5, [.ref o8, .ref oa, .ref fa, .ref sa, .int (nI 0), .int (nI (zhs bx nn 0))])), (o8, .inr (1, [.ref b8, .int 0, .int ml, .int (nI nn)])), (b8, .inl (cy 1, mm, .inl bx)), (oa, .inl (cy 0, 60, .inl oo)), (fa, .inl (cy 0, 60, .inl fi)), (sa, .inl (cy 0, 60, .inl se))] := hD
  have L10 : ∀ (F : Nat) (i : Nat) (x10_0 : Int32) (x10_1 : Nat → Int32) (x10_2 : Nat → Int32) (x10_3 : Nat → Int32), i ≤ mq → mq - i < F → x10_0 = nI (zhs bx nn i) → x10_1 = zaO oo bx nn (i) → x10_2 = zaF fi bx nn (i) → x10_3 = zaS se bx nn (i) → ∀ (H : Heap) (locs : List Loc), va_P D vwCl [(ic, .inr (5, [.ref o8, .ref oa, .ref fa, .ref sa, .int (nI i), .int x10_0])), (o8, .inr (1, [.ref b8, .int 0, .int ml, .int (nI nn)])), (b8, .inl (cy 1, mm, .inl bx)), (oa, .inl (cy 0, 60, .inl x10_1)), (fa, .inl (cy 0, 60, .inl x10_2)), (sa, .inl (cy 0, 60, .inl x10_3))] H → va_D A [(ic, .inr (5, [.ref o8, .ref oa, .ref fa, .ref sa, .int (nI i), .int x10_0])), (o8, .inr (1, [.ref b8, .int 0, .int ml, .int (nI nn)])), (b8, .inl (cy 1, mm, .inl bx)), (oa, .inl (cy 0, 60, .inl x10_1)), (fa, .inl (cy 0, 60, .inl x10_2)), (sa, .inl (cy 0, 60, .inl x10_3))] → va_S A s.heap H locs → ∀ ls : Array Slot, lv_has ls 1 [(0, .ref ic)] → W p l e rmX1_read_ok s m ([.ref ic] : List Value).toArray below meth c H locs 0 0 Q (F0 m 10 ls []) := by
    intro F
    induction F with
    | zero =>
      intro i x10_0 x10_1 x10_2 x10_3 hi hF ex10_0 ex10_1 ex10_2 ex10_3 H locs hP hD hS ls hl
      exact absurd hF (Nat.not_lt_zero _)
    | succ F ih10 =>
      intro i x10_0 x10_1 x10_2 x10_3 hi hF ex10_0 ex10_1 ex10_2 ex10_3 H locs hP hD hS ls hl
      subst ex10_0
      subst ex10_1
      subst ex10_2
      subst ex10_3
      refine lv_aload_n hx hb dX1_read_10 rfl (lv_at hl 0 rfl) ?_
      refine va_get (D := D) (ci := 5) (v := .int (nI i)) (C := RX1) (T := TX1) (N := 6) hx hb hts in_RX1 hown hK hP 0 rfl rfl 4 (by decide) (hts _ (List.mem_of_getElem? (i := 2) rfl)) (fun _ h9 => h9) rfl dX1_read_11 ?_
      refine lv_bipush (v := 60) hx hb dX1_read_14 (by decide) ?_
      refine lv_icmp_ge (tgt := 67) hx hb dX1_read_16 (by decide) (fun c_1 => ?_) (fun c_1 => ?_)
      · exact absurd ((nI_leI (a := 60) (b := i) (by omega) (by omega)).mp c_1) (by omega)
      · refine lv_aload_n hx hb dX1_read_19 rfl (lv_at hl 0 rfl) ?_
        refine lv_aload_n hx hb dX1_read_20 rfl (lv_at hl 0 rfl) ?_
        refine va_get (D := D) (ci := 5) (v := .int (nI i)) (C := RX1) (T := TX1) (N := 6) hx hb hts in_RX1 hown hK hP 0 rfl rfl 4 (by decide) (hts _ (List.mem_of_getElem? (i := 2) rfl)) (fun _ h9 => h9) rfl dX1_read_21 ?_
        refine zcV (As := [.int (nI i)]) (rest := []) [0, 1, 2, 3, 4, 5] 0 hg.1.1 ⟨hx, hb, hml, hown, hts⟩ (c_X1_readCommand_any hg l D cy ic oa fa sa i (zhs bx nn i) o8 b8 ml nn bx mm ak av (zaO oo bx nn (i)) (zaF fi bx nn (i)) (zaS se bx nn (i)) i (by have := h6 i hi; omega) (by first | assumption | omega) (by first | assumption | omega) (by first | assumption | omega) (by first | assumption | omega) (by omega) (by have := h6 i hi; omega) (by first | assumption | omega) (by first | assumption | omega)) (cwV 1 hts gX1_read_X1_readCommand rfl rfl rfl (by decide +kernel) ⟨Nat.le_of_ble_eq_true rfl, Nat.le_of_ble_eq_true rfl⟩) hG hK hP hD hS hA rfl rfl (Eq.trans (b := [ic, o8, b8, oa, fa, sa]) rfl rfl) rfl rfl rfl hl.1 rfl (Nat.le_of_ble_eq_true rfl) dX1_read_24 ⟨Nat.zero_le _, Nat.zero_le _⟩ (fun H locs hP hD hS => ?_)
        have hP : va_P D vwCl [(ic, .inr (5, [.ref o8, .ref oa, .ref fa, .ref sa, .int (nI i), .int (nI (zcH bx nn (zhs bx nn i)))])), (o8, .inr (1, [.ref b8, .int 0, .int ml, .int (nI nn)])), (b8, .inl (cy 1, mm, .inl bx)), (oa, .inl (cy 0, 60, .inl (zgO bx nn (zhs bx nn i) i (zaO oo bx nn (i))))), (fa, .inl (cy 0, 60, .inl (zgF bx nn (zhs bx nn i) i (zaF fi bx nn (i))))), (sa, .inl (cy 0, 60, .inl (zgS bx nn (zhs bx nn i) i (zaS se bx nn (i)))))] H := hP
        have hD : va_D A [(ic, .inr (5, [.ref o8, .ref oa, .ref fa, .ref sa, .int (nI i), .int (nI (zcH bx nn (zhs bx nn i)))])), (o8, .inr (1, [.ref b8, .int 0, .int ml, .int (nI nn)])), (b8, .inl (cy 1, mm, .inl bx)), (oa, .inl (cy 0, 60, .inl (zgO bx nn (zhs bx nn i) i (zaO oo bx nn (i))))), (fa, .inl (cy 0, 60, .inl (zgF bx nn (zhs bx nn i) i (zaF fi bx nn (i))))), (sa, .inl (cy 0, 60, .inl (zgS bx nn (zhs bx nn i) i (zaS se bx nn (i)))))] := hD
        refine lv_if_eq (tgt := 67) hx hb dX1_read_27 (by decide) (fun c_2 => ?_) (fun c_2 => ?_)
        · replace c_2 := zI0 c_2
          exact absurd (hWa i hi) (by simpa using c_2)
        · replace c_2 := zI1 c_2
          refine lv_aload_n hx hb dX1_read_30 rfl (lv_at hl 0 rfl) ?_
          refine lv_dup hx hb dX1_read_31 rfl ?_
          refine va_get (D := D) (ci := 5) (v := .int (nI i)) (C := RX1) (T := TX1) (N := 6) hx hb hts in_RX1 hown hK hP 0 rfl rfl 4 (by decide) (hts _ (List.mem_of_getElem? (i := 2) rfl)) (fun _ h9 => h9) rfl dX1_read_32 ?_
          refine lv_iconst (v := 1) hx hb dX1_read_35 (by decide) ?_
          refine lv_iadd hx hb dX1_read_36 ?_
          refine z_top (y := nI (i + 1)) (nI_add i 1) ?_
          refine va_put (D := D) (ci := 5) (v := .int (nI (i + 1))) (ty := .int) (C := RX1) (T := TX1) (N := 6) hx hb hts in_RX1 tyX1 tyX1_ok nmX1 hown hK hP hD hS 0 rfl rfl 4 (by decide) (hts _ (List.mem_of_getElem? (i := 2) rfl)) (fun _ h9 => h9) rfl (by decide +kernel) rfl rfl (Nat.le_of_ble_eq_true rfl) dX1_read_37 (fun H locs hP hD hS => ?_)
          have hP : va_P D vwCl [(ic, .inr (5, [.ref o8, .ref oa, .ref fa, .ref sa, .int (nI (i + 1)), .int (nI (zcH bx nn (zhs bx nn i)))])), (o8, .inr (1, [.ref b8, .int 0, .int ml, .int (nI nn)])), (b8, .inl (cy 1, mm, .inl bx)), (oa, .inl (cy 0, 60, .inl (zgO bx nn (zhs bx nn i) i (zaO oo bx nn (i))))), (fa, .inl (cy 0, 60, .inl (zgF bx nn (zhs bx nn i) i (zaF fi bx nn (i))))), (sa, .inl (cy 0, 60, .inl (zgS bx nn (zhs bx nn i) i (zaS se bx nn (i)))))] H := hP
          have hD : va_D A [(ic, .inr (5, [.ref o8, .ref oa, .ref fa, .ref sa, .int (nI (i + 1)), .int (nI (zcH bx nn (zhs bx nn i)))])), (o8, .inr (1, [.ref b8, .int 0, .int ml, .int (nI nn)])), (b8, .inl (cy 1, mm, .inl bx)), (oa, .inl (cy 0, 60, .inl (zgO bx nn (zhs bx nn i) i (zaO oo bx nn (i))))), (fa, .inl (cy 0, 60, .inl (zgF bx nn (zhs bx nn i) i (zaF fi bx nn (i))))), (sa, .inl (cy 0, 60, .inl (zgS bx nn (zhs bx nn i) i (zaS se bx nn (i)))))] := hD
          refine lv_aload_n hx hb dX1_read_40 rfl (lv_at hl 0 rfl) ?_
          refine va_get (D := D) (ci := 5) (v := .int (nI (zcH bx nn (zhs bx nn i)))) (C := RX1) (T := TX1) (N := 6) hx hb hts in_RX1 hown hK hP 0 rfl rfl 5 (by decide) (hts _ (List.mem_of_getElem? (i := 1) rfl)) (fun _ h9 => h9) rfl dX1_read_41 ?_
          refine lv_aload_n hx hb dX1_read_44 rfl (lv_at hl 0 rfl) ?_
          refine va_get (D := D) (ci := 5) (v := .ref o8) (C := RX1) (T := TX1) (N := 6) hx hb hts in_RX1 hown hK hP 0 rfl rfl 0 (by decide) (hts _ (List.mem_of_getElem? (i := 3) rfl)) (fun _ h9 => h9) rfl dX1_read_45 ?_
          refine zcV (As := []) (rest := [.int (nI (zcH bx nn (zhs bx nn i)))]) [1] 1 hg.1.1 ⟨hx, hb, hml, hown, hts⟩ (c_J4_length_8abf5 hg.1 l D cy o8 b8 ml nn) (cwV 0 hts gX1_read_J4_length_8abf5 rfl rfl rfl (by decide +kernel) ⟨Nat.le_of_ble_eq_true rfl, Nat.le_of_ble_eq_true rfl⟩) hG hK hP hD hS hA rfl rfl rfl rfl rfl rfl hl.1 rfl (Nat.le_of_ble_eq_true rfl) dX1_read_48 ⟨Nat.zero_le _, Nat.zero_le _⟩ (fun H locs hP hD hS => ?_)
          have hP : va_P D vwCl [(ic, .inr (5, [.ref o8, .ref oa, .ref fa, .ref sa, .int (nI (i + 1)), .int (nI (zcH bx nn (zhs bx nn i)))])), (o8, .inr (1, [.ref b8, .int 0, .int ml, .int (nI nn)])), (b8, .inl (cy 1, mm, .inl bx)), (oa, .inl (cy 0, 60, .inl (zgO bx nn (zhs bx nn i) i (zaO oo bx nn (i))))), (fa, .inl (cy 0, 60, .inl (zgF bx nn (zhs bx nn i) i (zaF fi bx nn (i))))), (sa, .inl (cy 0, 60, .inl (zgS bx nn (zhs bx nn i) i (zaS se bx nn (i)))))] H := hP
          have hD : va_D A [(ic, .inr (5, [.ref o8, .ref oa, .ref fa, .ref sa, .int (nI (i + 1)), .int (nI (zcH bx nn (zhs bx nn i)))])), (o8, .inr (1, [.ref b8, .int 0, .int ml, .int (nI nn)])), (b8, .inl (cy 1, mm, .inl bx)), (oa, .inl (cy 0, 60, .inl (zgO bx nn (zhs bx nn i) i (zaO oo bx nn (i))))), (fa, .inl (cy 0, 60, .inl (zgF bx nn (zhs bx nn i) i (zaF fi bx nn (i))))), (sa, .inl (cy 0, 60, .inl (zgS bx nn (zhs bx nn i) i (zaS se bx nn (i)))))] := hD
          have hle9 : zcH bx nn (zhs bx nn i) ≤ nn := zcH_en (h6 i hi)
          refine lv_icmp_lt (tgt := 56) hx hb dX1_read_51 (by decide) (fun c_3 => ?_) (fun c_3 => ?_)
          · have hlh : zcH bx nn (zhs bx nn i) < nn := (nI_ltI (by omega) (by omega)).mp c_3
            have hlt : i < mq := (Nat.lt_or_eq_of_le hi).elim (fun h => h) (fun h => absurd hlh (by rw [h]; exact hE))
            refine lv_aload_n hx hb dX1_read_56 rfl (lv_at hl 0 rfl) ?_
            refine lv_bipush (v := 59) hx hb dX1_read_57 (by decide) ?_
            refine zcV (As := [.int 59]) (rest := []) [0, 1, 2] 0 hg.1.1 ⟨hx, hb, hml, hown, hts⟩ (c_X1_skip hg l D cy ic oa fa sa (i + 1) (zcH bx nn (zhs bx nn i)) o8 b8 ml nn bx mm 59 (by omega) (by first | assumption | omega) (by first | assumption | omega) (by first | assumption | omega) (by decide)) (cwV 1 hts gX1_read_X1_skip rfl rfl rfl (by decide +kernel) ⟨Nat.le_of_ble_eq_true rfl, Nat.le_of_ble_eq_true rfl⟩) hG hK hP hD hS hA rfl rfl (Eq.trans (b := [ic, o8, b8]) rfl rfl) rfl rfl rfl hl.1 rfl (Nat.le_of_ble_eq_true rfl) dX1_read_59 ⟨Nat.zero_le _, Nat.zero_le _⟩ (fun H locs hP hD hS => ?_)
            have hP : va_P D vwCl [(ic, .inr (5, [.ref o8, .ref oa, .ref fa, .ref sa, .int (nI (i + 1)), .int (nI (zmH bx nn (zcH bx nn (zhs bx nn i)) false 59))])), (o8, .inr (1, [.ref b8, .int 0, .int ml, .int (nI nn)])), (b8, .inl (cy 1, mm, .inl bx)), (oa, .inl (cy 0, 60, .inl (zgO bx nn (zhs bx nn i) i (zaO oo bx nn (i))))), (fa, .inl (cy 0, 60, .inl (zgF bx nn (zhs bx nn i) i (zaF fi bx nn (i))))), (sa, .inl (cy 0, 60, .inl (zgS bx nn (zhs bx nn i) i (zaS se bx nn (i)))))] H := hP
            have hD : va_D A [(ic, .inr (5, [.ref o8, .ref oa, .ref fa, .ref sa, .int (nI (i + 1)), .int (nI (zmH bx nn (zcH bx nn (zhs bx nn i)) false 59))])), (o8, .inr (1, [.ref b8, .int 0, .int ml, .int (nI nn)])), (b8, .inl (cy 1, mm, .inl bx)), (oa, .inl (cy 0, 60, .inl (zgO bx nn (zhs bx nn i) i (zaO oo bx nn (i))))), (fa, .inl (cy 0, 60, .inl (zgF bx nn (zhs bx nn i) i (zaF fi bx nn (i))))), (sa, .inl (cy 0, 60, .inl (zgS bx nn (zhs bx nn i) i (zaS se bx nn (i)))))] := hD
            refine lv_if_ne (tgt := 10) hx hb dX1_read_62 (by decide) (fun c_4 => ?_) (fun c_4 => ?_)
            · replace c_4 := zI1 c_4
              have hz : zmW bx nn (zcH bx nn (zhs bx nn i)) false 59 = false := by simpa using c_4
              have er_5 : zmH bx nn (zcH bx nn (zhs bx nn i)) false 59 = zhs bx nn (i + 1) := (by rw [zmH, if_neg (by rw [hz]; decide)]; rfl)
              rw [er_5] at hP hD
              exact ih10 (i + 1) (nI (zhs bx nn (i + 1))) (zgO bx nn (zhs bx nn i) i (zaO oo bx nn (i))) (zgF bx nn (zhs bx nn i) i (zaF fi bx nn (i))) (zgS bx nn (zhs bx nn i) i (zaS se bx nn (i))) (by omega) (by omega) rfl (by rfl) (by rfl) (by rfl) H locs hP hD hS ls (lv_sub hl [0] rfl)
            · replace c_4 := zI0 c_4
              have hz : zmW bx nn (zcH bx nn (zhs bx nn i)) false 59 = true := by simpa using c_4
              exact absurd hz (by simp [zmW, hGi i hlt])
          · have hgh : ¬ zcH bx nn (zhs bx nn i) < nn := fun z => c_3 (nI_lt z (by omega))
            have hie : mq = i := (Nat.lt_or_eq_of_le hi).elim (fun h => absurd (zqs_lt (hGi i h) (by decide)) hgh) (fun h => h.symm)
            subst hie
            refine lv_iconst (v := 1) hx hb dX1_read_54 (by decide) ?_
            exact zzret hend hx hb hr hlk hK hP hD hS dX1_read_55 rfl rfl (by rfl)
  exact L10 (mq - 0 + 1) 0 (nI (zhs bx nn 0)) oo fi se (Nat.zero_le _) (Nat.lt_succ_self _) rfl (by rfl) (by rfl) (by rfl) H locs hP hD hS ls (lv_sub hl [0] rfl)

abbrev rmX1_read_bs : Room := { frames := 8, cells := 0, slots := 0, locals := 177 }
set_option maxHeartbeats 4000000 in
set_option maxRecDepth 100000 in
theorem c_X1_read_bs {G : zG} (hg : zGJ G) (l : Launch) (D : va_G) (cy : Nat → ClassId) (ic : Nat) (oa : Nat) (fa : Nat) (sa : Nat) (kc : Nat) (he : Nat) (o8 : Nat) (b8 : Nat) (ml : Int32) (nn : Nat) (bx : Nat → Int32) (mm : Nat) (ak : Nat) (av : Nat) (oo : Nat → Int32) (fi : Nat → Int32) (se : Nat → Int32) (mq : Nat) (hgl : ∀ (A : Nat → Prop) (U : State), G A U → zLit ak av A U) (hnm : nn ≤ mm) (hmm : mm ≤ 100) (hch : ∀ j, j < nn → zch (bx j)) (hn60 : nn ≤ 60) (has : ∀ i, i < nn → zas (bx i)) (hmq : mq < 60) (h6 : ∀ i, i ≤ mq → zhs bx nn i ≤ nn) (hWi : ∀ i, i < mq → zcW bx nn (zhs bx nn i) = false) (hGi : ∀ i, i < mq → zqs bx nn (zcH bx nn (zhs bx nn i)) = 59) (hWa : ∀ i, i ≤ mq → zcW bx nn (zhs bx nn i) = false) (hE : zcH bx nn (zhs bx nn mq) < nn) (hS9 : ¬ zqs bx nn (zcH bx nn (zhs bx nn mq)) = 59) : zM G D vwCl (zT cy) l yX1_read wsX1_read rmX1_read_bs [.ref ic] [(ic, .inr (5, [.ref o8, .ref oa, .ref fa, .ref sa, .int (nI kc), .int (nI he)])), (o8, .inr (1, [.ref b8, .int 0, .int ml, .int (nI nn)])), (b8, .inl (cy 1, mm, .inl bx)), (oa, .inl (cy 0, 60, .inl oo)), (fa, .inl (cy 0, 60, .inl fi)), (sa, .inl (cy 0, 60, .inl se))] (some (.int 0)) [(ic, .inr (5, [.ref o8, .ref oa, .ref fa, .ref sa, .int (nI (mq + 1)), .int (nI (zcH bx nn (zhs bx nn mq)))])), (o8, .inr (1, [.ref b8, .int 0, .int ml, .int (nI nn)])), (b8, .inl (cy 1, mm, .inl bx)), (oa, .inl (cy 0, 60, .inl (zaO oo bx nn (mq + 1)))), (fa, .inl (cy 0, 60, .inl (zaF fi bx nn (mq + 1)))), (sa, .inl (cy 0, 60, .inl (zaS se bx nn (mq + 1))))] := by
  refine zM_of (cc := cX1_read) (maxL := 1) (ret := (some .boolean)) (by decide) rfl (Nat.le_of_ble_eq_true rfl) ?_
  intro p e s m below meth c A Q hend hx hb hml hr hts hown hlk hG hK hP hD hA hS ls hl
  have hown : s.vm.findClass RX1 = some m.cls := hown
  have in_RX1 : ∀ w ∈ u_ws RX1 TX1 6, w ∈ wsX1_read := by decide +kernel
  have hl : lv_has ls 1 [(0, .ref ic)] := hl
  refine lv_aload_n hx hb dX1_read_0 rfl (lv_at hl 0 rfl) ?_
  refine lv_iconst (v := 0) hx hb dX1_read_1 (by decide) ?_
  refine z_top (y := nI (zhs bx nn 0)) (rfl) ?_
  refine va_put (D := D) (ci := 5) (v := .int (nI (zhs bx nn 0))) (ty := .int) (C := RX1) (T := TX1) (N := 6) hx hb hts in_RX1 tyX1 tyX1_ok nmX1 hown hK hP hD hS 0 rfl rfl 5 (by decide) (hts _ (List.mem_of_getElem? (i := 1) rfl)) (fun _ h9 => h9) rfl (by decide +kernel) rfl rfl (Nat.le_of_ble_eq_true rfl) dX1_read_2 (fun H locs hP hD hS => ?_)
  have hP : va_P D vwCl [(ic, .inr (5, [.ref o8, .ref oa, .ref fa, .ref sa, .int (nI kc), .int (nI (zhs bx nn 0))])), (o8, .inr (1, [.ref b8, .int 0, .int ml, .int (nI nn)])), (b8, .inl (cy 1, mm, .inl bx)), (oa, .inl (cy 0, 60, .inl oo)), (fa, .inl (cy 0, 60, .inl fi)), (sa, .inl (cy 0, 60, .inl se))] H := hP
  have hD : va_D A [(ic, .inr (5, [.ref o8, .ref oa, .ref fa, .ref sa, .int (nI kc), .int (nI (zhs bx nn 0))])), (o8, .inr (1, [.ref b8, .int 0, .int ml, .int (nI nn)])), (b8, .inl (cy 1, mm, .inl bx)), (oa, .inl (cy 0, 60, .inl oo)), (fa, .inl (cy 0, 60, .inl fi)), (sa, .inl (cy 0, 60, .inl se))] := hD
  refine lv_aload_n hx hb dX1_read_5 rfl (lv_at hl 0 rfl) ?_
  refine lv_iconst (v := 0) hx hb dX1_read_6 (by decide) ?_
  refine z_top (y := nI 0) (rfl) ?_
  refine va_put (D := D) (ci := 5) (v := .int (nI 0)) (ty := .int) (C := RX1) (T := TX1) (N := 6) hx hb hts in_RX1 tyX1 tyX1_ok nmX1 hown hK hP hD hS 0 rfl rfl 4 (by decide) (hts _ (List.mem_of_getElem? (i := 2) rfl)) (fun _ h9 => h9) rfl (by decide +kernel) rfl rfl (Nat.le_of_ble_eq_true rfl) dX1_read_7 (fun H locs hP hD hS => ?_)
  have hP : va_P D vwCl [(ic, .inr (5, [.ref o8, .ref oa, .ref fa, .ref sa, .int (nI 0), .int (nI (zhs bx nn 0))])), (o8, .inr (1, [.ref b8, .int 0, .int ml, .int (nI nn)])), (b8, .inl (cy 1, mm, .inl bx)), (oa, .inl (cy 0, 60, .inl oo)), (fa, .inl (cy 0, 60, .inl fi)), (sa, .inl (cy 0, 60, .inl se))] H := hP
  have hD : va_D A [(ic, .inr (5, [.ref o8, .ref oa, .ref fa, .ref sa, .int (nI 0), .int (nI (zhs bx nn 0))])), (o8, .inr (1, [.ref b8, .int 0, .int ml, .int (nI nn)])), (b8, .inl (cy 1, mm, .inl bx)), (oa, .inl (cy 0, 60, .inl oo)), (fa, .inl (cy 0, 60, .inl fi)), (sa, .inl (cy 0, 60, .inl se))] := hD
  have L10 : ∀ (F : Nat) (i : Nat) (x10_0 : Int32) (x10_1 : Nat → Int32) (x10_2 : Nat → Int32) (x10_3 : Nat → Int32), i ≤ mq → mq - i < F → x10_0 = nI (zhs bx nn i) → x10_1 = zaO oo bx nn (i) → x10_2 = zaF fi bx nn (i) → x10_3 = zaS se bx nn (i) → ∀ (H : Heap) (locs : List Loc), va_P D vwCl [(ic, .inr (5, [.ref o8, .ref oa, .ref fa, .ref sa, .int (nI i), .int x10_0])), (o8, .inr (1, [.ref b8, .int 0, .int ml, .int (nI nn)])), (b8, .inl (cy 1, mm, .inl bx)), (oa, .inl (cy 0, 60, .inl x10_1)), (fa, .inl (cy 0, 60, .inl x10_2)), (sa, .inl (cy 0, 60, .inl x10_3))] H → va_D A [(ic, .inr (5, [.ref o8, .ref oa, .ref fa, .ref sa, .int (nI i), .int x10_0])), (o8, .inr (1, [.ref b8, .int 0, .int ml, .int (nI nn)])), (b8, .inl (cy 1, mm, .inl bx)), (oa, .inl (cy 0, 60, .inl x10_1)), (fa, .inl (cy 0, 60, .inl x10_2)), (sa, .inl (cy 0, 60, .inl x10_3))] → va_S A s.heap H locs → ∀ ls : Array Slot, lv_has ls 1 [(0, .ref ic)] → W p l e rmX1_read_bs s m ([.ref ic] : List Value).toArray below meth c H locs 0 0 Q (F0 m 10 ls []) := by
    intro F
    induction F with
    | zero =>
      intro i x10_0 x10_1 x10_2 x10_3 hi hF ex10_0 ex10_1 ex10_2 ex10_3 H locs hP hD hS ls hl
      exact absurd hF (Nat.not_lt_zero _)
    | succ F ih10 =>
      intro i x10_0 x10_1 x10_2 x10_3 hi hF ex10_0 ex10_1 ex10_2 ex10_3 H locs hP hD hS ls hl
      subst ex10_0
      subst ex10_1
      subst ex10_2
      subst ex10_3
      refine lv_aload_n hx hb dX1_read_10 rfl (lv_at hl 0 rfl) ?_
      refine va_get (D := D) (ci := 5) (v := .int (nI i)) (C := RX1) (T := TX1) (N := 6) hx hb hts in_RX1 hown hK hP 0 rfl rfl 4 (by decide) (hts _ (List.mem_of_getElem? (i := 2) rfl)) (fun _ h9 => h9) rfl dX1_read_11 ?_
      refine lv_bipush (v := 60) hx hb dX1_read_14 (by decide) ?_
      refine lv_icmp_ge (tgt := 67) hx hb dX1_read_16 (by decide) (fun c_1 => ?_) (fun c_1 => ?_)
      · exact absurd ((nI_leI (a := 60) (b := i) (by omega) (by omega)).mp c_1) (by omega)
      · refine lv_aload_n hx hb dX1_read_19 rfl (lv_at hl 0 rfl) ?_
        refine lv_aload_n hx hb dX1_read_20 rfl (lv_at hl 0 rfl) ?_
        refine va_get (D := D) (ci := 5) (v := .int (nI i)) (C := RX1) (T := TX1) (N := 6) hx hb hts in_RX1 hown hK hP 0 rfl rfl 4 (by decide) (hts _ (List.mem_of_getElem? (i := 2) rfl)) (fun _ h9 => h9) rfl dX1_read_21 ?_
        refine zcV (As := [.int (nI i)]) (rest := []) [0, 1, 2, 3, 4, 5] 0 hg.1.1 ⟨hx, hb, hml, hown, hts⟩ (c_X1_readCommand_any hg l D cy ic oa fa sa i (zhs bx nn i) o8 b8 ml nn bx mm ak av (zaO oo bx nn (i)) (zaF fi bx nn (i)) (zaS se bx nn (i)) i (by have := h6 i hi; omega) (by first | assumption | omega) (by first | assumption | omega) (by first | assumption | omega) (by first | assumption | omega) (by omega) (by have := h6 i hi; omega) (by first | assumption | omega) (by first | assumption | omega)) (cwV 1 hts gX1_read_X1_readCommand rfl rfl rfl (by decide +kernel) ⟨Nat.le_of_ble_eq_true rfl, Nat.le_of_ble_eq_true rfl⟩) hG hK hP hD hS hA rfl rfl (Eq.trans (b := [ic, o8, b8, oa, fa, sa]) rfl rfl) rfl rfl rfl hl.1 rfl (Nat.le_of_ble_eq_true rfl) dX1_read_24 ⟨Nat.zero_le _, Nat.zero_le _⟩ (fun H locs hP hD hS => ?_)
        have hP : va_P D vwCl [(ic, .inr (5, [.ref o8, .ref oa, .ref fa, .ref sa, .int (nI i), .int (nI (zcH bx nn (zhs bx nn i)))])), (o8, .inr (1, [.ref b8, .int 0, .int ml, .int (nI nn)])), (b8, .inl (cy 1, mm, .inl bx)), (oa, .inl (cy 0, 60, .inl (zgO bx nn (zhs bx nn i) i (zaO oo bx nn (i))))), (fa, .inl (cy 0, 60, .inl (zgF bx nn (zhs bx nn i) i (zaF fi bx nn (i))))), (sa, .inl (cy 0, 60, .inl (zgS bx nn (zhs bx nn i) i (zaS se bx nn (i)))))] H := hP
        have hD : va_D A [(ic, .inr (5, [.ref o8, .ref oa, .ref fa, .ref sa, .int (nI i), .int (nI (zcH bx nn (zhs bx nn i)))])), (o8, .inr (1, [.ref b8, .int 0, .int ml, .int (nI nn)])), (b8, .inl (cy 1, mm, .inl bx)), (oa, .inl (cy 0, 60, .inl (zgO bx nn (zhs bx nn i) i (zaO oo bx nn (i))))), (fa, .inl (cy 0, 60, .inl (zgF bx nn (zhs bx nn i) i (zaF fi bx nn (i))))), (sa, .inl (cy 0, 60, .inl (zgS bx nn (zhs bx nn i) i (zaS se bx nn (i)))))] := hD
        refine lv_if_eq (tgt := 67) hx hb dX1_read_27 (by decide) (fun c_2 => ?_) (fun c_2 => ?_)
        · replace c_2 := zI0 c_2
          exact absurd (hWa i hi) (by simpa using c_2)
        · replace c_2 := zI1 c_2
          refine lv_aload_n hx hb dX1_read_30 rfl (lv_at hl 0 rfl) ?_
          refine lv_dup hx hb dX1_read_31 rfl ?_
          refine va_get (D := D) (ci := 5) (v := .int (nI i)) (C := RX1) (T := TX1) (N := 6) hx hb hts in_RX1 hown hK hP 0 rfl rfl 4 (by decide) (hts _ (List.mem_of_getElem? (i := 2) rfl)) (fun _ h9 => h9) rfl dX1_read_32 ?_
          refine lv_iconst (v := 1) hx hb dX1_read_35 (by decide) ?_
          refine lv_iadd hx hb dX1_read_36 ?_
          refine z_top (y := nI (i + 1)) (nI_add i 1) ?_
          refine va_put (D := D) (ci := 5) (v := .int (nI (i + 1))) (ty := .int) (C := RX1) (T := TX1) (N := 6) hx hb hts in_RX1 tyX1 tyX1_ok nmX1 hown hK hP hD hS 0 rfl rfl 4 (by decide) (hts _ (List.mem_of_getElem? (i := 2) rfl)) (fun _ h9 => h9) rfl (by decide +kernel) rfl rfl (Nat.le_of_ble_eq_true rfl) dX1_read_37 (fun H locs hP hD hS => ?_)
          have hP : va_P D vwCl [(ic, .inr (5, [.ref o8, .ref oa, .ref fa, .ref sa, .int (nI (i + 1)), .int (nI (zcH bx nn (zhs bx nn i)))])), (o8, .inr (1, [.ref b8, .int 0, .int ml, .int (nI nn)])), (b8, .inl (cy 1, mm, .inl bx)), (oa, .inl (cy 0, 60, .inl (zgO bx nn (zhs bx nn i) i (zaO oo bx nn (i))))), (fa, .inl (cy 0, 60, .inl (zgF bx nn (zhs bx nn i) i (zaF fi bx nn (i))))), (sa, .inl (cy 0, 60, .inl (zgS bx nn (zhs bx nn i) i (zaS se bx nn (i)))))] H := hP
          have hD : va_D A [(ic, .inr (5, [.ref o8, .ref oa, .ref fa, .ref sa, .int (nI (i + 1)), .int (nI (zcH bx nn (zhs bx nn i)))])), (o8, .inr (1, [.ref b8, .int 0, .int ml, .int (nI nn)])), (b8, .inl (cy 1, mm, .inl bx)), (oa, .inl (cy 0, 60, .inl (zgO bx nn (zhs bx nn i) i (zaO oo bx nn (i))))), (fa, .inl (cy 0, 60, .inl (zgF bx nn (zhs bx nn i) i (zaF fi bx nn (i))))), (sa, .inl (cy 0, 60, .inl (zgS bx nn (zhs bx nn i) i (zaS se bx nn (i)))))] := hD
          refine lv_aload_n hx hb dX1_read_40 rfl (lv_at hl 0 rfl) ?_
          refine va_get (D := D) (ci := 5) (v := .int (nI (zcH bx nn (zhs bx nn i)))) (C := RX1) (T := TX1) (N := 6) hx hb hts in_RX1 hown hK hP 0 rfl rfl 5 (by decide) (hts _ (List.mem_of_getElem? (i := 1) rfl)) (fun _ h9 => h9) rfl dX1_read_41 ?_
          refine lv_aload_n hx hb dX1_read_44 rfl (lv_at hl 0 rfl) ?_
          refine va_get (D := D) (ci := 5) (v := .ref o8) (C := RX1) (T := TX1) (N := 6) hx hb hts in_RX1 hown hK hP 0 rfl rfl 0 (by decide) (hts _ (List.mem_of_getElem? (i := 3) rfl)) (fun _ h9 => h9) rfl dX1_read_45 ?_
          refine zcV (As := []) (rest := [.int (nI (zcH bx nn (zhs bx nn i)))]) [1] 1 hg.1.1 ⟨hx, hb, hml, hown, hts⟩ (c_J4_length_8abf5 hg.1 l D cy o8 b8 ml nn) (cwV 0 hts gX1_read_J4_length_8abf5 rfl rfl rfl (by decide +kernel) ⟨Nat.le_of_ble_eq_true rfl, Nat.le_of_ble_eq_true rfl⟩) hG hK hP hD hS hA rfl rfl rfl rfl rfl rfl hl.1 rfl (Nat.le_of_ble_eq_true rfl) dX1_read_48 ⟨Nat.zero_le _, Nat.zero_le _⟩ (fun H locs hP hD hS => ?_)
          have hP : va_P D vwCl [(ic, .inr (5, [.ref o8, .ref oa, .ref fa, .ref sa, .int (nI (i + 1)), .int (nI (zcH bx nn (zhs bx nn i)))])), (o8, .inr (1, [.ref b8, .int 0, .int ml, .int (nI nn)])), (b8, .inl (cy 1, mm, .inl bx)), (oa, .inl (cy 0, 60, .inl (zgO bx nn (zhs bx nn i) i (zaO oo bx nn (i))))), (fa, .inl (cy 0, 60, .inl (zgF bx nn (zhs bx nn i) i (zaF fi bx nn (i))))), (sa, .inl (cy 0, 60, .inl (zgS bx nn (zhs bx nn i) i (zaS se bx nn (i)))))] H := hP
          have hD : va_D A [(ic, .inr (5, [.ref o8, .ref oa, .ref fa, .ref sa, .int (nI (i + 1)), .int (nI (zcH bx nn (zhs bx nn i)))])), (o8, .inr (1, [.ref b8, .int 0, .int ml, .int (nI nn)])), (b8, .inl (cy 1, mm, .inl bx)), (oa, .inl (cy 0, 60, .inl (zgO bx nn (zhs bx nn i) i (zaO oo bx nn (i))))), (fa, .inl (cy 0, 60, .inl (zgF bx nn (zhs bx nn i) i (zaF fi bx nn (i))))), (sa, .inl (cy 0, 60, .inl (zgS bx nn (zhs bx nn i) i (zaS se bx nn (i)))))] := hD
          have hle9 : zcH bx nn (zhs bx nn i) ≤ nn := zcH_en (h6 i hi)
          refine lv_icmp_lt (tgt := 56) hx hb dX1_read_51 (by decide) (fun c_3 => ?_) (fun c_3 => ?_)
          · have hlh : zcH bx nn (zhs bx nn i) < nn := (nI_ltI (by omega) (by omega)).mp c_3
            refine lv_aload_n hx hb dX1_read_56 rfl (lv_at hl 0 rfl) ?_
            refine lv_bipush (v := 59) hx hb dX1_read_57 (by decide) ?_
            refine zcV (As := [.int 59]) (rest := []) [0, 1, 2] 0 hg.1.1 ⟨hx, hb, hml, hown, hts⟩ (c_X1_skip hg l D cy ic oa fa sa (i + 1) (zcH bx nn (zhs bx nn i)) o8 b8 ml nn bx mm 59 (by omega) (by first | assumption | omega) (by first | assumption | omega) (by first | assumption | omega) (by decide)) (cwV 1 hts gX1_read_X1_skip rfl rfl rfl (by decide +kernel) ⟨Nat.le_of_ble_eq_true rfl, Nat.le_of_ble_eq_true rfl⟩) hG hK hP hD hS hA rfl rfl (Eq.trans (b := [ic, o8, b8]) rfl rfl) rfl rfl rfl hl.1 rfl (Nat.le_of_ble_eq_true rfl) dX1_read_59 ⟨Nat.zero_le _, Nat.zero_le _⟩ (fun H locs hP hD hS => ?_)
            have hP : va_P D vwCl [(ic, .inr (5, [.ref o8, .ref oa, .ref fa, .ref sa, .int (nI (i + 1)), .int (nI (zmH bx nn (zcH bx nn (zhs bx nn i)) false 59))])), (o8, .inr (1, [.ref b8, .int 0, .int ml, .int (nI nn)])), (b8, .inl (cy 1, mm, .inl bx)), (oa, .inl (cy 0, 60, .inl (zgO bx nn (zhs bx nn i) i (zaO oo bx nn (i))))), (fa, .inl (cy 0, 60, .inl (zgF bx nn (zhs bx nn i) i (zaF fi bx nn (i))))), (sa, .inl (cy 0, 60, .inl (zgS bx nn (zhs bx nn i) i (zaS se bx nn (i)))))] H := hP
            have hD : va_D A [(ic, .inr (5, [.ref o8, .ref oa, .ref fa, .ref sa, .int (nI (i + 1)), .int (nI (zmH bx nn (zcH bx nn (zhs bx nn i)) false 59))])), (o8, .inr (1, [.ref b8, .int 0, .int ml, .int (nI nn)])), (b8, .inl (cy 1, mm, .inl bx)), (oa, .inl (cy 0, 60, .inl (zgO bx nn (zhs bx nn i) i (zaO oo bx nn (i))))), (fa, .inl (cy 0, 60, .inl (zgF bx nn (zhs bx nn i) i (zaF fi bx nn (i))))), (sa, .inl (cy 0, 60, .inl (zgS bx nn (zhs bx nn i) i (zaS se bx nn (i)))))] := hD
            refine lv_if_ne (tgt := 10) hx hb dX1_read_62 (by decide) (fun c_4 => ?_) (fun c_4 => ?_)
            · replace c_4 := zI1 c_4
              have hz : zmW bx nn (zcH bx nn (zhs bx nn i)) false 59 = false := by simpa using c_4
              have hlt : i < mq := (Nat.lt_or_eq_of_le hi).elim (fun h => h) (fun h => absurd hS9 (by rw [← h]; simpa [zmW] using hz))
              have er_5 : zmH bx nn (zcH bx nn (zhs bx nn i)) false 59 = zhs bx nn (i + 1) := (by rw [zmH, if_neg (by rw [hz]; decide)]; rfl)
              rw [er_5] at hP hD
              exact ih10 (i + 1) (nI (zhs bx nn (i + 1))) (zgO bx nn (zhs bx nn i) i (zaO oo bx nn (i))) (zgF bx nn (zhs bx nn i) i (zaF fi bx nn (i))) (zgS bx nn (zhs bx nn i) i (zaS se bx nn (i))) (by omega) (by omega) rfl (by rfl) (by rfl) (by rfl) H locs hP hD hS ls (lv_sub hl [0] rfl)
            · replace c_4 := zI0 c_4
              have hz : zmW bx nn (zcH bx nn (zhs bx nn i)) false 59 = true := by simpa using c_4
              have hie : mq = i := (Nat.lt_or_eq_of_le hi).elim (fun h => absurd hz (by simp [zmW, hGi i h])) (fun h => h.symm)
              subst hie
              have er_6 : zmH bx nn (zcH bx nn (zhs bx nn mq)) false 59 = zcH bx nn (zhs bx nn mq) := (by rw [zmH, if_pos hz])
              rw [er_6] at hP hD
              refine lv_iconst (v := 0) hx hb dX1_read_65 (by decide) ?_
              exact zzret hend hx hb hr hlk hK hP hD hS dX1_read_66 rfl rfl (by rfl)
          · have hgh : ¬ zcH bx nn (zhs bx nn i) < nn := fun z => c_3 (nI_lt z (by omega))
            exact absurd ((Nat.lt_or_eq_of_le hi).elim (fun h => zqs_lt (hGi i h) (by decide)) (fun h => (by rw [h]; exact hE))) hgh
  exact L10 (mq - 0 + 1) 0 (nI (zhs bx nn 0)) oo fi se (Nat.zero_le _) (Nat.lt_succ_self _) rfl (by rfl) (by rfl) (by rfl) H locs hP hD hS ls (lv_sub hl [0] rfl)

abbrev rmX1_read_bw : Room := { frames := 8, cells := 0, slots := 0, locals := 177 }
set_option maxHeartbeats 4000000 in
set_option maxRecDepth 100000 in
theorem c_X1_read_bw {G : zG} (hg : zGJ G) (l : Launch) (D : va_G) (cy : Nat → ClassId) (ic : Nat) (oa : Nat) (fa : Nat) (sa : Nat) (kc : Nat) (he : Nat) (o8 : Nat) (b8 : Nat) (ml : Int32) (nn : Nat) (bx : Nat → Int32) (mm : Nat) (ak : Nat) (av : Nat) (oo : Nat → Int32) (fi : Nat → Int32) (se : Nat → Int32) (mq : Nat) (hgl : ∀ (A : Nat → Prop) (U : State), G A U → zLit ak av A U) (hnm : nn ≤ mm) (hmm : mm ≤ 100) (hch : ∀ j, j < nn → zch (bx j)) (hn60 : nn ≤ 60) (has : ∀ i, i < nn → zas (bx i)) (hmq : mq < 60) (h6 : ∀ i, i ≤ mq → zhs bx nn i ≤ nn) (hWi : ∀ i, i < mq → zcW bx nn (zhs bx nn i) = false) (hGi : ∀ i, i < mq → zqs bx nn (zcH bx nn (zhs bx nn i)) = 59) (hWm : zcW bx nn (zhs bx nn mq) = true) : zM G D vwCl (zT cy) l yX1_read wsX1_read rmX1_read_bw [.ref ic] [(ic, .inr (5, [.ref o8, .ref oa, .ref fa, .ref sa, .int (nI kc), .int (nI he)])), (o8, .inr (1, [.ref b8, .int 0, .int ml, .int (nI nn)])), (b8, .inl (cy 1, mm, .inl bx)), (oa, .inl (cy 0, 60, .inl oo)), (fa, .inl (cy 0, 60, .inl fi)), (sa, .inl (cy 0, 60, .inl se))] (some (.int 0)) [(ic, .inr (5, [.ref o8, .ref oa, .ref fa, .ref sa, .int (nI mq), .int (nI (zcH bx nn (zhs bx nn mq)))])), (o8, .inr (1, [.ref b8, .int 0, .int ml, .int (nI nn)])), (b8, .inl (cy 1, mm, .inl bx)), (oa, .inl (cy 0, 60, .inl (zaO oo bx nn (mq + 1)))), (fa, .inl (cy 0, 60, .inl (zaF fi bx nn (mq + 1)))), (sa, .inl (cy 0, 60, .inl (zaS se bx nn (mq + 1))))] := by
  refine zM_of (cc := cX1_read) (maxL := 1) (ret := (some .boolean)) (by decide) rfl (Nat.le_of_ble_eq_true rfl) ?_
  intro p e s m below meth c A Q hend hx hb hml hr hts hown hlk hG hK hP hD hA hS ls hl
  have hown : s.vm.findClass RX1 = some m.cls := hown
  have in_RX1 : ∀ w ∈ u_ws RX1 TX1 6, w ∈ wsX1_read := by decide +kernel
  have hl : lv_has ls 1 [(0, .ref ic)] := hl
  refine lv_aload_n hx hb dX1_read_0 rfl (lv_at hl 0 rfl) ?_
  refine lv_iconst (v := 0) hx hb dX1_read_1 (by decide) ?_
  refine z_top (y := nI (zhs bx nn 0)) (rfl) ?_
  refine va_put (D := D) (ci := 5) (v := .int (nI (zhs bx nn 0))) (ty := .int) (C := RX1) (T := TX1) (N := 6) hx hb hts in_RX1 tyX1 tyX1_ok nmX1 hown hK hP hD hS 0 rfl rfl 5 (by decide) (hts _ (List.mem_of_getElem? (i := 1) rfl)) (fun _ h9 => h9) rfl (by decide +kernel) rfl rfl (Nat.le_of_ble_eq_true rfl) dX1_read_2 (fun H locs hP hD hS => ?_)
  have hP : va_P D vwCl [(ic, .inr (5, [.ref o8, .ref oa, .ref fa, .ref sa, .int (nI kc), .int (nI (zhs bx nn 0))])), (o8, .inr (1, [.ref b8, .int 0, .int ml, .int (nI nn)])), (b8, .inl (cy 1, mm, .inl bx)), (oa, .inl (cy 0, 60, .inl oo)), (fa, .inl (cy 0, 60, .inl fi)), (sa, .inl (cy 0, 60, .inl se))] H := hP
  have hD : va_D A [(ic, .inr (5, [.ref o8, .ref oa, .ref fa, .ref sa, .int (nI kc), .int (nI (zhs bx nn 0))])), (o8, .inr (1, [.ref b8, .int 0, .int ml, .int (nI nn)])), (b8, .inl (cy 1, mm, .inl bx)), (oa, .inl (cy 0, 60, .inl oo)), (fa, .inl (cy 0, 60, .inl fi)), (sa, .inl (cy 0, 60, .inl se))] := hD
  refine lv_aload_n hx hb dX1_read_5 rfl (lv_at hl 0 rfl) ?_
  refine lv_iconst (v := 0) hx hb dX1_read_6 (by decide) ?_
  refine z_top (y := nI 0) (rfl) ?_
  refine va_put (D := D) (ci := 5) (v := .int (nI 0)) (ty := .int) (C := RX1) (T := TX1) (N := 6) hx hb hts in_RX1 tyX1 tyX1_ok nmX1 hown hK hP hD hS 0 rfl rfl 4 (by decide) (hts _ (List.mem_of_getElem? (i := 2) rfl)) (fun _ h9 => h9) rfl (by decide +kernel) rfl rfl (Nat.le_of_ble_eq_true rfl) dX1_read_7 (fun H locs hP hD hS => ?_)
  have hP : va_P D vwCl [(ic, .inr (5, [.ref o8, .ref oa, .ref fa, .ref sa, .int (nI 0), .int (nI (zhs bx nn 0))])), (o8, .inr (1, [.ref b8, .int 0, .int ml, .int (nI nn)])), (b8, .inl (cy 1, mm, .inl bx)), (oa, .inl (cy 0, 60, .inl oo)), (fa, .inl (cy 0, 60, .inl fi)), (sa, .inl (cy 0, 60, .inl se))] H := hP
  have hD : va_D A [(ic, .inr (5, [.ref o8, .ref oa, .ref fa, .ref sa, .int (nI 0), .int (nI (zhs bx nn 0))])), (o8, .inr (1, [.ref b8, .int 0, .int ml, .int (nI nn)])), (b8, .inl (cy 1, mm, .inl bx)), (oa, .inl (cy 0, 60, .inl oo)), (fa, .inl (cy 0, 60, .inl fi)), (sa, .inl (cy 0, 60, .inl se))] := hD
  have L10 : ∀ (F : Nat) (i : Nat) (x10_0 : Int32) (x10_1 : Nat → Int32) (x10_2 : Nat → Int32) (x10_3 : Nat → Int32), i ≤ mq → mq - i < F → x10_0 = nI (zhs bx nn i) → x10_1 = zaO oo bx nn (i) → x10_2 = zaF fi bx nn (i) → x10_3 = zaS se bx nn (i) → ∀ (H : Heap) (locs : List Loc), va_P D vwCl [(ic, .inr (5, [.ref o8, .ref oa, .ref fa, .ref sa, .int (nI i), .int x10_0])), (o8, .inr (1, [.ref b8, .int 0, .int ml, .int (nI nn)])), (b8, .inl (cy 1, mm, .inl bx)), (oa, .inl (cy 0, 60, .inl x10_1)), (fa, .inl (cy 0, 60, .inl x10_2)), (sa, .inl (cy 0, 60, .inl x10_3))] H → va_D A [(ic, .inr (5, [.ref o8, .ref oa, .ref fa, .ref sa, .int (nI i), .int x10_0])), (o8, .inr (1, [.ref b8, .int 0, .int ml, .int (nI nn)])), (b8, .inl (cy 1, mm, .inl bx)), (oa, .inl (cy 0, 60, .inl x10_1)), (fa, .inl (cy 0, 60, .inl x10_2)), (sa, .inl (cy 0, 60, .inl x10_3))] → va_S A s.heap H locs → ∀ ls : Array Slot, lv_has ls 1 [(0, .ref ic)] → W p l e rmX1_read_bw s m ([.ref ic] : List Value).toArray below meth c H locs 0 0 Q (F0 m 10 ls []) := by
    intro F
    induction F with
    | zero =>
      intro i x10_0 x10_1 x10_2 x10_3 hi hF ex10_0 ex10_1 ex10_2 ex10_3 H locs hP hD hS ls hl
      exact absurd hF (Nat.not_lt_zero _)
    | succ F ih10 =>
      intro i x10_0 x10_1 x10_2 x10_3 hi hF ex10_0 ex10_1 ex10_2 ex10_3 H locs hP hD hS ls hl
      subst ex10_0
      subst ex10_1
      subst ex10_2
      subst ex10_3
      refine lv_aload_n hx hb dX1_read_10 rfl (lv_at hl 0 rfl) ?_
      refine va_get (D := D) (ci := 5) (v := .int (nI i)) (C := RX1) (T := TX1) (N := 6) hx hb hts in_RX1 hown hK hP 0 rfl rfl 4 (by decide) (hts _ (List.mem_of_getElem? (i := 2) rfl)) (fun _ h9 => h9) rfl dX1_read_11 ?_
      refine lv_bipush (v := 60) hx hb dX1_read_14 (by decide) ?_
      refine lv_icmp_ge (tgt := 67) hx hb dX1_read_16 (by decide) (fun c_1 => ?_) (fun c_1 => ?_)
      · exact absurd ((nI_leI (a := 60) (b := i) (by omega) (by omega)).mp c_1) (by omega)
      · refine lv_aload_n hx hb dX1_read_19 rfl (lv_at hl 0 rfl) ?_
        refine lv_aload_n hx hb dX1_read_20 rfl (lv_at hl 0 rfl) ?_
        refine va_get (D := D) (ci := 5) (v := .int (nI i)) (C := RX1) (T := TX1) (N := 6) hx hb hts in_RX1 hown hK hP 0 rfl rfl 4 (by decide) (hts _ (List.mem_of_getElem? (i := 2) rfl)) (fun _ h9 => h9) rfl dX1_read_21 ?_
        refine zcV (As := [.int (nI i)]) (rest := []) [0, 1, 2, 3, 4, 5] 0 hg.1.1 ⟨hx, hb, hml, hown, hts⟩ (c_X1_readCommand_any hg l D cy ic oa fa sa i (zhs bx nn i) o8 b8 ml nn bx mm ak av (zaO oo bx nn (i)) (zaF fi bx nn (i)) (zaS se bx nn (i)) i (by have := h6 i hi; omega) (by first | assumption | omega) (by first | assumption | omega) (by first | assumption | omega) (by first | assumption | omega) (by omega) (by have := h6 i hi; omega) (by first | assumption | omega) (by first | assumption | omega)) (cwV 1 hts gX1_read_X1_readCommand rfl rfl rfl (by decide +kernel) ⟨Nat.le_of_ble_eq_true rfl, Nat.le_of_ble_eq_true rfl⟩) hG hK hP hD hS hA rfl rfl (Eq.trans (b := [ic, o8, b8, oa, fa, sa]) rfl rfl) rfl rfl rfl hl.1 rfl (Nat.le_of_ble_eq_true rfl) dX1_read_24 ⟨Nat.zero_le _, Nat.zero_le _⟩ (fun H locs hP hD hS => ?_)
        have hP : va_P D vwCl [(ic, .inr (5, [.ref o8, .ref oa, .ref fa, .ref sa, .int (nI i), .int (nI (zcH bx nn (zhs bx nn i)))])), (o8, .inr (1, [.ref b8, .int 0, .int ml, .int (nI nn)])), (b8, .inl (cy 1, mm, .inl bx)), (oa, .inl (cy 0, 60, .inl (zgO bx nn (zhs bx nn i) i (zaO oo bx nn (i))))), (fa, .inl (cy 0, 60, .inl (zgF bx nn (zhs bx nn i) i (zaF fi bx nn (i))))), (sa, .inl (cy 0, 60, .inl (zgS bx nn (zhs bx nn i) i (zaS se bx nn (i)))))] H := hP
        have hD : va_D A [(ic, .inr (5, [.ref o8, .ref oa, .ref fa, .ref sa, .int (nI i), .int (nI (zcH bx nn (zhs bx nn i)))])), (o8, .inr (1, [.ref b8, .int 0, .int ml, .int (nI nn)])), (b8, .inl (cy 1, mm, .inl bx)), (oa, .inl (cy 0, 60, .inl (zgO bx nn (zhs bx nn i) i (zaO oo bx nn (i))))), (fa, .inl (cy 0, 60, .inl (zgF bx nn (zhs bx nn i) i (zaF fi bx nn (i))))), (sa, .inl (cy 0, 60, .inl (zgS bx nn (zhs bx nn i) i (zaS se bx nn (i)))))] := hD
        refine lv_if_eq (tgt := 67) hx hb dX1_read_27 (by decide) (fun c_2 => ?_) (fun c_2 => ?_)
        · replace c_2 := zI0 c_2
          have hw9 : zcW bx nn (zhs bx nn i) = true := by simpa using c_2
          have hie : mq = i := (Nat.lt_or_eq_of_le hi).elim (fun h => absurd (hWi i h) (by rw [hw9]; decide)) (fun h => h.symm)
          subst hie
          refine lv_iconst (v := 0) hx hb dX1_read_67 (by decide) ?_
          exact zzret hend hx hb hr hlk hK hP hD hS dX1_read_68 rfl rfl (by rfl)
        · replace c_2 := zI1 c_2
          have hlt : i < mq := (Nat.lt_or_eq_of_le hi).elim (fun h => h) (fun h => absurd hWm (by rw [← h]; simpa using c_2))
          refine lv_aload_n hx hb dX1_read_30 rfl (lv_at hl 0 rfl) ?_
          refine lv_dup hx hb dX1_read_31 rfl ?_
          refine va_get (D := D) (ci := 5) (v := .int (nI i)) (C := RX1) (T := TX1) (N := 6) hx hb hts in_RX1 hown hK hP 0 rfl rfl 4 (by decide) (hts _ (List.mem_of_getElem? (i := 2) rfl)) (fun _ h9 => h9) rfl dX1_read_32 ?_
          refine lv_iconst (v := 1) hx hb dX1_read_35 (by decide) ?_
          refine lv_iadd hx hb dX1_read_36 ?_
          refine z_top (y := nI (i + 1)) (nI_add i 1) ?_
          refine va_put (D := D) (ci := 5) (v := .int (nI (i + 1))) (ty := .int) (C := RX1) (T := TX1) (N := 6) hx hb hts in_RX1 tyX1 tyX1_ok nmX1 hown hK hP hD hS 0 rfl rfl 4 (by decide) (hts _ (List.mem_of_getElem? (i := 2) rfl)) (fun _ h9 => h9) rfl (by decide +kernel) rfl rfl (Nat.le_of_ble_eq_true rfl) dX1_read_37 (fun H locs hP hD hS => ?_)
          have hP : va_P D vwCl [(ic, .inr (5, [.ref o8, .ref oa, .ref fa, .ref sa, .int (nI (i + 1)), .int (nI (zcH bx nn (zhs bx nn i)))])), (o8, .inr (1, [.ref b8, .int 0, .int ml, .int (nI nn)])), (b8, .inl (cy 1, mm, .inl bx)), (oa, .inl (cy 0, 60, .inl (zgO bx nn (zhs bx nn i) i (zaO oo bx nn (i))))), (fa, .inl (cy 0, 60, .inl (zgF bx nn (zhs bx nn i) i (zaF fi bx nn (i))))), (sa, .inl (cy 0, 60, .inl (zgS bx nn (zhs bx nn i) i (zaS se bx nn (i)))))] H := hP
          have hD : va_D A [(ic, .inr (5, [.ref o8, .ref oa, .ref fa, .ref sa, .int (nI (i + 1)), .int (nI (zcH bx nn (zhs bx nn i)))])), (o8, .inr (1, [.ref b8, .int 0, .int ml, .int (nI nn)])), (b8, .inl (cy 1, mm, .inl bx)), (oa, .inl (cy 0, 60, .inl (zgO bx nn (zhs bx nn i) i (zaO oo bx nn (i))))), (fa, .inl (cy 0, 60, .inl (zgF bx nn (zhs bx nn i) i (zaF fi bx nn (i))))), (sa, .inl (cy 0, 60, .inl (zgS bx nn (zhs bx nn i) i (zaS se bx nn (i)))))] := hD
          refine lv_aload_n hx hb dX1_read_40 rfl (lv_at hl 0 rfl) ?_
          refine va_get (D := D) (ci := 5) (v := .int (nI (zcH bx nn (zhs bx nn i)))) (C := RX1) (T := TX1) (N := 6) hx hb hts in_RX1 hown hK hP 0 rfl rfl 5 (by decide) (hts _ (List.mem_of_getElem? (i := 1) rfl)) (fun _ h9 => h9) rfl dX1_read_41 ?_
          refine lv_aload_n hx hb dX1_read_44 rfl (lv_at hl 0 rfl) ?_
          refine va_get (D := D) (ci := 5) (v := .ref o8) (C := RX1) (T := TX1) (N := 6) hx hb hts in_RX1 hown hK hP 0 rfl rfl 0 (by decide) (hts _ (List.mem_of_getElem? (i := 3) rfl)) (fun _ h9 => h9) rfl dX1_read_45 ?_
          refine zcV (As := []) (rest := [.int (nI (zcH bx nn (zhs bx nn i)))]) [1] 1 hg.1.1 ⟨hx, hb, hml, hown, hts⟩ (c_J4_length_8abf5 hg.1 l D cy o8 b8 ml nn) (cwV 0 hts gX1_read_J4_length_8abf5 rfl rfl rfl (by decide +kernel) ⟨Nat.le_of_ble_eq_true rfl, Nat.le_of_ble_eq_true rfl⟩) hG hK hP hD hS hA rfl rfl rfl rfl rfl rfl hl.1 rfl (Nat.le_of_ble_eq_true rfl) dX1_read_48 ⟨Nat.zero_le _, Nat.zero_le _⟩ (fun H locs hP hD hS => ?_)
          have hP : va_P D vwCl [(ic, .inr (5, [.ref o8, .ref oa, .ref fa, .ref sa, .int (nI (i + 1)), .int (nI (zcH bx nn (zhs bx nn i)))])), (o8, .inr (1, [.ref b8, .int 0, .int ml, .int (nI nn)])), (b8, .inl (cy 1, mm, .inl bx)), (oa, .inl (cy 0, 60, .inl (zgO bx nn (zhs bx nn i) i (zaO oo bx nn (i))))), (fa, .inl (cy 0, 60, .inl (zgF bx nn (zhs bx nn i) i (zaF fi bx nn (i))))), (sa, .inl (cy 0, 60, .inl (zgS bx nn (zhs bx nn i) i (zaS se bx nn (i)))))] H := hP
          have hD : va_D A [(ic, .inr (5, [.ref o8, .ref oa, .ref fa, .ref sa, .int (nI (i + 1)), .int (nI (zcH bx nn (zhs bx nn i)))])), (o8, .inr (1, [.ref b8, .int 0, .int ml, .int (nI nn)])), (b8, .inl (cy 1, mm, .inl bx)), (oa, .inl (cy 0, 60, .inl (zgO bx nn (zhs bx nn i) i (zaO oo bx nn (i))))), (fa, .inl (cy 0, 60, .inl (zgF bx nn (zhs bx nn i) i (zaF fi bx nn (i))))), (sa, .inl (cy 0, 60, .inl (zgS bx nn (zhs bx nn i) i (zaS se bx nn (i)))))] := hD
          have hle9 : zcH bx nn (zhs bx nn i) ≤ nn := zcH_en (h6 i hi)
          refine lv_icmp_lt (tgt := 56) hx hb dX1_read_51 (by decide) (fun c_3 => ?_) (fun c_3 => ?_)
          · have hlh : zcH bx nn (zhs bx nn i) < nn := (nI_ltI (by omega) (by omega)).mp c_3
            refine lv_aload_n hx hb dX1_read_56 rfl (lv_at hl 0 rfl) ?_
            refine lv_bipush (v := 59) hx hb dX1_read_57 (by decide) ?_
            refine zcV (As := [.int 59]) (rest := []) [0, 1, 2] 0 hg.1.1 ⟨hx, hb, hml, hown, hts⟩ (c_X1_skip hg l D cy ic oa fa sa (i + 1) (zcH bx nn (zhs bx nn i)) o8 b8 ml nn bx mm 59 (by omega) (by first | assumption | omega) (by first | assumption | omega) (by first | assumption | omega) (by decide)) (cwV 1 hts gX1_read_X1_skip rfl rfl rfl (by decide +kernel) ⟨Nat.le_of_ble_eq_true rfl, Nat.le_of_ble_eq_true rfl⟩) hG hK hP hD hS hA rfl rfl (Eq.trans (b := [ic, o8, b8]) rfl rfl) rfl rfl rfl hl.1 rfl (Nat.le_of_ble_eq_true rfl) dX1_read_59 ⟨Nat.zero_le _, Nat.zero_le _⟩ (fun H locs hP hD hS => ?_)
            have hP : va_P D vwCl [(ic, .inr (5, [.ref o8, .ref oa, .ref fa, .ref sa, .int (nI (i + 1)), .int (nI (zmH bx nn (zcH bx nn (zhs bx nn i)) false 59))])), (o8, .inr (1, [.ref b8, .int 0, .int ml, .int (nI nn)])), (b8, .inl (cy 1, mm, .inl bx)), (oa, .inl (cy 0, 60, .inl (zgO bx nn (zhs bx nn i) i (zaO oo bx nn (i))))), (fa, .inl (cy 0, 60, .inl (zgF bx nn (zhs bx nn i) i (zaF fi bx nn (i))))), (sa, .inl (cy 0, 60, .inl (zgS bx nn (zhs bx nn i) i (zaS se bx nn (i)))))] H := hP
            have hD : va_D A [(ic, .inr (5, [.ref o8, .ref oa, .ref fa, .ref sa, .int (nI (i + 1)), .int (nI (zmH bx nn (zcH bx nn (zhs bx nn i)) false 59))])), (o8, .inr (1, [.ref b8, .int 0, .int ml, .int (nI nn)])), (b8, .inl (cy 1, mm, .inl bx)), (oa, .inl (cy 0, 60, .inl (zgO bx nn (zhs bx nn i) i (zaO oo bx nn (i))))), (fa, .inl (cy 0, 60, .inl (zgF bx nn (zhs bx nn i) i (zaF fi bx nn (i))))), (sa, .inl (cy 0, 60, .inl (zgS bx nn (zhs bx nn i) i (zaS se bx nn (i)))))] := hD
            refine lv_if_ne (tgt := 10) hx hb dX1_read_62 (by decide) (fun c_4 => ?_) (fun c_4 => ?_)
            · replace c_4 := zI1 c_4
              have hz : zmW bx nn (zcH bx nn (zhs bx nn i)) false 59 = false := by simpa using c_4
              have er_5 : zmH bx nn (zcH bx nn (zhs bx nn i)) false 59 = zhs bx nn (i + 1) := (by rw [zmH, if_neg (by rw [hz]; decide)]; rfl)
              rw [er_5] at hP hD
              exact ih10 (i + 1) (nI (zhs bx nn (i + 1))) (zgO bx nn (zhs bx nn i) i (zaO oo bx nn (i))) (zgF bx nn (zhs bx nn i) i (zaF fi bx nn (i))) (zgS bx nn (zhs bx nn i) i (zaS se bx nn (i))) (by omega) (by omega) rfl (by rfl) (by rfl) (by rfl) H locs hP hD hS ls (lv_sub hl [0] rfl)
            · replace c_4 := zI0 c_4
              have hz : zmW bx nn (zcH bx nn (zhs bx nn i)) false 59 = true := by simpa using c_4
              exact absurd hz (by simp [zmW, hGi i hlt])
          · have hgh : ¬ zcH bx nn (zhs bx nn i) < nn := fun z => c_3 (nI_lt z (by omega))
            exact absurd (zqs_lt (hGi i hlt) (by decide)) hgh
  exact L10 (mq - 0 + 1) 0 (nI (zhs bx nn 0)) oo fi se (Nat.zero_le _) (Nat.lt_succ_self _) rfl (by rfl) (by rfl) (by rfl) H locs hP hD hS ls (lv_sub hl [0] rfl)
