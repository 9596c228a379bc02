theorem zpt_n {v : Nat → Int32} {k : Nat} {l a : Int32} {j : Nat} (h1 : ¬ j = 10 + k) (h2 : ¬ j = 34 + k) : zpt v k l a j = v j := by simp only [zpt, upd]; rw [if_neg h2, if_neg h1]
def zp0 (v : Nat → Int32) : Nat → (Nat → Int32)
  | 0 => v
  | k + 1 => zpt (zp0 v k) k 0 0
def zzr (v : Nat → Int32) (k : Nat) : Nat → Int32 := fun n => if 68 ≤ n ∧ n < 68 + k then 0 else v n
theorem zzr_0 (v : Nat → Int32) : zzr v 0 = v := by funext n; simp only [zzr]; rw [if_neg (by omega)]
theorem zzr_s (v : Nat → Int32) (k : Nat) : upd (zzr v k) (68 + k) 0 = zzr v (k + 1) := by
  funext n
  simp only [upd, zzr]
  by_cases h : n = 68 + k
  · rw [if_pos h, if_pos (by omega)]
  · rw [if_neg h]
    by_cases h2 : 68 ≤ n ∧ n < 68 + k
    · rw [if_pos h2, if_pos (by omega)]
    · rw [if_neg h2, if_neg (by omega)]
/-- all cast off -/
def zfin (v : Nat → Int32) : Nat → Int32 := upd (upd (upd (upd (zzr (zp0 v 24) 120) 0 0) 1 0) 5 0) 6 (upd (upd (upd (zzr (zp0 v 24) 120) 0 0) 1 0) 5 0 6 + 1)
def zdT6 (v : Nat → Int32) (a : Nat) : Int32 := if zb (v 0) (nI a) = true then zbc 40 (v 0) 0 else nI a
def zrP6 (v : Nat → Int32) (ac a : Nat) : Int32 := if zb (v 0) (nI a) = true then (if v (10 + a) ≤ 0 then (if v (58 + ac) = 0 then 10 else 0) else 4) else 2
def zdP6 (v : Nat → Int32) (a : Nat) : Int32 := if zb (v 0) (nI a) = true then (if v (10 + a) ≤ 0 then 1 else v (10 + a)) else nI a
def zrz (v : Nat → Int32) : Nat → (Nat → Int32)
  | 0 => v
  | k + 1 => upd (zrz v k) (62 + k) 0
def zph (hq : Nat → Nat → Int32) (ch : Nat) (bf : Nat → Int32) : Nat → Nat → Int32 := if ch = 8 then (fun i => if i = 7 then bf else hq (i + 1)) else va_up hq ch bf
def zpl (pf bf : Nat → Int32) (cx k : Nat) : Nat → Int32 := fun n => if cx * 188 ≤ n ∧ n < cx * 188 + k then bf (n - cx * 188) else pf n
theorem zpl_0 (pf bf : Nat → Int32) (cx : Nat) : zpl pf bf cx 0 = pf := by
  funext n; simp only [zpl]; rw [if_neg (by omega)]
theorem zpl_s (pf bf : Nat → Int32) (cx k : Nat) : upd (zpl pf bf cx k) (cx * 188 + k) (bf k) = zpl pf bf cx (k + 1) := by
  funext n
  simp only [upd, zpl]
  by_cases h : n = cx * 188 + k
  · rw [if_pos h, if_pos (by omega), h, Nat.add_sub_cancel_left]
  · rw [if_neg h]
    by_cases h2 : cx * 188 ≤ n ∧ n < cx * 188 + k
    · rw [if_pos h2, if_pos (by omega)]
    · rw [if_neg h2, if_neg (by omega)]
def zsf (pf : Nat → Int32) (k : Nat) : Nat → Int32 := fun n => if n < k then pf (n + 188) else pf n
theorem zsf_0 (pf : Nat → Int32) : zsf pf 0 = pf := by funext n; simp [zsf]
theorem zsf_s (pf : Nat → Int32) (k : Nat) : upd (zsf pf k) k (zsf pf k (k + 188)) = zsf pf (k + 1) := by
  funext n
  simp only [upd, zsf]
  rw [if_neg (show ¬ k + 188 < k by omega)]
  by_cases h : n = k
  · rw [if_pos h, if_pos (by omega), h]
  · rw [if_neg h]
    by_cases h2 : n < k
    · rw [if_pos h2, if_pos (by omega)]
    · rw [if_neg h2, if_neg (by omega)]
theorem zph_a (hq : Nat → Nat → Int32) (bf : Nat → Int32) {ch : Nat} (hc : ¬ ch = 8) (j : Nat) (hj : j < 1504) : zpl (zpk hq) bf ch 188 j = zpk (zph hq ch bf) j := by
  simp only [zpl, zpk, zph, if_neg hc, va_up]
  by_cases h : j / 188 = ch
  · rw [if_pos (by omega), if_pos h, show j - ch * 188 = j % 188 by omega]
  · rw [if_neg (by omega), if_neg h]
theorem zph_b (hq : Nat → Nat → Int32) (bf : Nat → Int32) (j : Nat) (hj : j < 1504) : zpl (zsf (zpk hq) 1316) bf 7 188 j = zpk (zph hq 8 bf) j := by
  simp only [zpl, zpk, zph, zsf, ↓reduceIte]
  by_cases h : j / 188 = 7
  · rw [if_pos (by omega), if_pos h, show j - 7 * 188 = j % 188 by omega]
  · rw [if_neg (by omega), if_pos (by omega), if_neg h, show (j + 188) / 188 = j / 188 + 1 by omega, show (j + 188) % 188 = j % 188 by omega]
theorem zic23 {k : Nat} (h : k < 24) : zic 0 23 (nI k) = true := by
  have h1 : ¬ nI k < 0 := nI_pos (by omega)
  have h2 : ¬ (23 : Int32) < nI k := nI_nlt (a := 23) (by omega) (by omega)
  simp [zic, h1, h2, Int32.not_lt.mp h2]
theorem zic3 {k : Nat} (h : k < 4) : zic 0 3 (nI k) = true := by
  have h1 : ¬ nI k < 0 := nI_pos (by omega)
  have h2 : ¬ (3 : Int32) < nI k := nI_nlt (a := 3) (by omega) (by omega)
  simp [zic, h1, h2, Int32.not_lt.mp h2]
theorem nI_m1 {k : Nat} (h : k < 2 ^ 31) : ¬ nI k = -1 := by
  intro z
  have := nI_pos h
  rw [z] at this
  exact this (by decide)
/-- needles cast on, one after the other -/
def zpv (v : Nat → Int32) (a : Nat) : Nat → (Nat → Int32)
  | 0 => v
  | n + 1 => zpt (upd (zpv v a n) 0 (zpv v a n 0 ||| (1 <<< (nI (a + n) &&& 31)))) (a + n) 1 0
abbrev rmX6_ends_ok : Room := { frames := 0, cells := 0, slots := 0, locals := 0 }
set_option maxHeartbeats 4000000 in
set_option maxRecDepth 100000 in
theorem c_X6_ends_ok {G : zG} (hg : zGN G) (l : Launch) (D : va_G) (cy : Nat → ClassId) (x9 : Nat) (ch : Nat) (era : Int32) (why : Int32) (det : Int32) (cau : Int32) (sv : Bool) (rj : Bool) (v9 : Nat) (b9 : Nat) (s9 : Nat) (k9 : Nat) (p9 : Nat) (t9 : Nat) (n9 : Nat) (tn : Nat) (he : Nat) (en : Nat) (ln : Nat) (iw : Bool) (dg : Bool) (v : Nat → Int32) (bf : Nat → Int32) (hq : Nat → Nat → Int32) (iq : Int32) (hch : ch ≤ 8) : zM G D vwCl (zT cy) l yX6_ends wsX6_ends rmX6_ends_ok [.ref x9, .int iq] [(x9, .inr (10, [.int 0, .int (nI ch), .int era, .int why, .int det, .int cau, .int (zI sv), .int (zI rj), .ref v9, .ref b9, .ref s9, .ref k9, .ref p9, .ref t9, .ref n9, .int (nI tn), .int (nI he), .int (nI en), .int (nI ln), .int (zI iw), .int (zI dg)])), (v9, .inl (cy 0, 188, .inl v)), (b9, .inl (cy 0, 188, .inl bf)), (p9, .inl (cy 0, 1504, .inl (zpk hq)))] (some (.int iq)) [(x9, .inr (10, [.int 0, .int (nI (min (ch + 1) 8)), .int era, .int why, .int det, .int cau, .int (zI sv), .int (zI rj), .ref v9, .ref b9, .ref s9, .ref k9, .ref p9, .ref t9, .ref n9, .int (nI tn), .int (nI he), .int (nI en), .int (nI ln), .int (zI iw), .int (zI dg)])), (v9, .inl (cy 0, 188, .inl v)), (b9, .inl (cy 0, 188, .inl bf)), (p9, .inl (cy 0, 1504, .inl (zpk (zph hq ch bf))))] := by
  refine zM_of (cc := cX6_ends) (maxL := 3) (ret := (some .int)) (by decide) rfl (Nat.le_of_ble_eq_true rfl) ?_
  intro p e s m below meth c A Q hend hx hb hml hr hts hown hlk hG hK hP hD hA hS ls hl
  have hown : s.vm.findClass RX6 = some m.cls := hown
  have in_RX6 : ∀ w ∈ u_ws RX6 TX6 21, w ∈ wsX6_ends := by decide +kernel
  have hl : lv_has ls 3 [(0, .ref x9), (1, .int iq)] := hl
  have L72 : ∀ (F : Nat) (k : Nat) (cx : Nat) (pf : Nat → Int32) (x72_0 : Nat → Int32), k ≤ 188 → cx + 1 = min (ch + 1) 8 → (∀ j, j < 1504 → zpl pf bf cx 188 j = zpk (zph hq ch bf) j) → 188 - k < F → x72_0 = zpl pf bf cx k → ∀ (H : Heap) (locs : List Loc), va_P D vwCl [(x9, .inr (10, [.int 0, .int (nI cx), .int era, .int why, .int det, .int cau, .int (zI sv), .int (zI rj), .ref v9, .ref b9, .ref s9, .ref k9, .ref p9, .ref t9, .ref n9, .int (nI tn), .int (nI he), .int (nI en), .int (nI ln), .int (zI iw), .int (zI dg)])), (v9, .inl (cy 0, 188, .inl v)), (b9, .inl (cy 0, 188, .inl bf)), (p9, .inl (cy 0, 1504, .inl x72_0))] H → va_D A [(x9, .inr (10, [.int 0, .int (nI cx), .int era, .int why, .int det, .int cau, .int (zI sv), .int (zI rj), .ref v9, .ref b9, .ref s9, .ref k9, .ref p9, .ref t9, .ref n9, .int (nI tn), .int (nI he), .int (nI en), .int (nI ln), .int (zI iw), .int (zI dg)])), (v9, .inl (cy 0, 188, .inl v)), (b9, .inl (cy 0, 188, .inl bf)), (p9, .inl (cy 0, 1504, .inl x72_0))] → va_S A s.heap H locs → ∀ ls : Array Slot, lv_has ls 3 [(0, .ref x9), (1, .int iq), (2, .int (nI k))] → W p l e rmX6_ends_ok s m ([.ref x9, .int iq] : List Value).toArray below meth c H locs 0 0 Q (F0 m 72 ls []) := by
    intro F
    induction F with
    | zero =>
      intro k cx pf x72_0 hk hcx hfin hF ex72_0 H locs hP hD hS ls hl
      exact absurd hF (Nat.not_lt_zero _)
    | succ F ih72 =>
      intro k cx pf x72_0 hk hcx hfin hF ex72_0 H locs hP hD hS ls hl
      subst ex72_0
      refine lv_iload_n hx hb dX6_ends_72 rfl (lv_at hl 2 rfl) ?_
      refine lv_sipush (v := 188) hx hb dX6_ends_73 (by decide) ?_
      refine lv_icmp_ge (tgt := 106) hx hb dX6_ends_76 (by decide) (fun c_1 => ?_) (fun c_1 => ?_)
      · have hk2 : 188 ≤ k := (nI_leI (by omega) (by omega)).mp c_1
        obtain rfl : 188 = k := by omega
        have hP : va_P D vwCl [(x9, .inr (10, [.int 0, .int (nI cx), .int era, .int why, .int det, .int cau, .int (zI sv), .int (zI rj), .ref v9, .ref b9, .ref s9, .ref k9, .ref p9, .ref t9, .ref n9, .int (nI tn), .int (nI he), .int (nI en), .int (nI ln), .int (zI iw), .int (zI dg)])), (v9, .inl (cy 0, 188, .inl v)), (b9, .inl (cy 0, 188, .inl bf)), (p9, .inl (cy 0, 1504, .inl (zpk (zph hq ch bf))))] H := z_arr (ws := [(x9, .inr (10, [.int 0, .int (nI cx), .int era, .int why, .int det, .int cau, .int (zI sv), .int (zI rj), .ref v9, .ref b9, .ref s9, .ref k9, .ref p9, .ref t9, .ref n9, .int (nI tn), .int (nI he), .int (nI en), .int (nI ln), .int (zI iw), .int (zI dg)])), (v9, .inl (cy 0, 188, .inl v)), (b9, .inl (cy 0, 188, .inl bf)), (p9, .inl (cy 0, 1504, .inl (zpl pf bf cx 188)))]) (q0 := 3) (a := p9) (f := (zpl pf bf cx 188)) (g := (zpk (zph hq ch bf))) (H0 := H) hP (fun j hj => hfin j hj)
        have hD : va_D A [(x9, .inr (10, [.int 0, .int (nI cx), .int era, .int why, .int det, .int cau, .int (zI sv), .int (zI rj), .ref v9, .ref b9, .ref s9, .ref k9, .ref p9, .ref t9, .ref n9, .int (nI tn), .int (nI he), .int (nI en), .int (nI ln), .int (zI iw), .int (zI dg)])), (v9, .inl (cy 0, 188, .inl v)), (b9, .inl (cy 0, 188, .inl bf)), (p9, .inl (cy 0, 1504, .inl (zpk (zph hq ch bf))))] := z_setD (ws := [(x9, .inr (10, [.int 0, .int (nI cx), .int era, .int why, .int det, .int cau, .int (zI sv), .int (zI rj), .ref v9, .ref b9, .ref s9, .ref k9, .ref p9, .ref t9, .ref n9, .int (nI tn), .int (nI he), .int (nI en), .int (nI ln), .int (zI iw), .int (zI dg)])), (v9, .inl (cy 0, 188, .inl v)), (b9, .inl (cy 0, 188, .inl bf)), (p9, .inl (cy 0, 1504, .inl (zpl pf bf cx 188)))]) (q0 := 3) (a := p9) (x := .inl (cy 0, 1504, .inl (zpl pf bf cx 188))) hD
        refine lv_aload_n hx hb dX6_ends_106 rfl (lv_at hl 0 rfl) ?_
        refine lv_dup hx hb dX6_ends_107 rfl ?_
        refine va_get (D := D) (ci := 10) (v := .int (nI cx)) (C := RX6) (T := TX6) (N := 21) hx hb hts in_RX6 hown hK hP 0 rfl rfl 1 (by decide) (hts _ (List.mem_of_getElem? (i := 4) rfl)) (fun _ h9 => h9) rfl dX6_ends_108 ?_
        refine lv_iconst (v := 1) hx hb dX6_ends_111 (by decide) ?_
        refine lv_iadd hx hb dX6_ends_112 ?_
        refine z_top (y := nI (cx + 1)) (nI_add cx 1) ?_
        refine va_put (D := D) (ci := 10) (v := .int (nI (cx + 1))) (ty := .int) (C := RX6) (T := TX6) (N := 21) hx hb hts in_RX6 tyX6 tyX6_ok nmX6 hown hK hP hD hS 0 rfl rfl 1 (by decide) (hts _ (List.mem_of_getElem? (i := 4) rfl)) (fun _ h9 => h9) rfl (by decide +kernel) rfl rfl (Nat.le_of_ble_eq_true rfl) dX6_ends_113 (fun H locs hP hD hS => ?_)
        have hP : va_P D vwCl [(x9, .inr (10, [.int 0, .int (nI (cx + 1)), .int era, .int why, .int det, .int cau, .int (zI sv), .int (zI rj), .ref v9, .ref b9, .ref s9, .ref k9, .ref p9, .ref t9, .ref n9, .int (nI tn), .int (nI he), .int (nI en), .int (nI ln), .int (zI iw), .int (zI dg)])), (v9, .inl (cy 0, 188, .inl v)), (b9, .inl (cy 0, 188, .inl bf)), (p9, .inl (cy 0, 1504, .inl (zpk (zph hq ch bf))))] H := hP
        have hD : va_D A [(x9, .inr (10, [.int 0, .int (nI (cx + 1)), .int era, .int why, .int det, .int cau, .int (zI sv), .int (zI rj), .ref v9, .ref b9, .ref s9, .ref k9, .ref p9, .ref t9, .ref n9, .int (nI tn), .int (nI he), .int (nI en), .int (nI ln), .int (zI iw), .int (zI dg)])), (v9, .inl (cy 0, 188, .inl v)), (b9, .inl (cy 0, 188, .inl bf)), (p9, .inl (cy 0, 1504, .inl (zpk (zph hq ch bf))))] := hD
        refine lv_iload_n hx hb dX6_ends_116 rfl (lv_at hl 1 rfl) ?_
        exact ziret hend hx hb hr hlk hK hP hD hS dX6_ends_117 rfl (by rw [hcx])
      · have hk2 : k < 188 := Nat.lt_of_not_le (fun z => c_1 (nI_le z (by omega)))
        refine lv_aload_n hx hb dX6_ends_79 rfl (lv_at hl 0 rfl) ?_
        refine va_get (D := D) (ci := 10) (v := .ref p9) (C := RX6) (T := TX6) (N := 21) hx hb hts in_RX6 hown hK hP 0 rfl rfl 12 (by decide) (hts _ (List.mem_of_getElem? (i := 5) rfl)) (fun _ h9 => h9) rfl dX6_ends_80 ?_
        refine lv_aload_n hx hb dX6_ends_83 rfl (lv_at hl 0 rfl) ?_
        refine va_get (D := D) (ci := 10) (v := .int (nI cx)) (C := RX6) (T := TX6) (N := 21) hx hb hts in_RX6 hown hK hP 0 rfl rfl 1 (by decide) (hts _ (List.mem_of_getElem? (i := 4) rfl)) (fun _ h9 => h9) rfl dX6_ends_84 ?_
        refine lv_sipush (v := 188) hx hb dX6_ends_87 (by decide) ?_
        refine lv_imul hx hb dX6_ends_90 ?_
        refine z_top (y := nI (cx * 188)) (pk_mul cx 188) ?_
        refine lv_iload_n hx hb dX6_ends_91 rfl (lv_at hl 2 rfl) ?_
        refine lv_iadd hx hb dX6_ends_92 ?_
        refine z_top (y := nI ((cx * 188) + k)) (nI_add (cx * 188) k) ?_
        refine lv_aload_n hx hb dX6_ends_93 rfl (lv_at hl 0 rfl) ?_
        refine va_get (D := D) (ci := 10) (v := .ref b9) (C := RX6) (T := TX6) (N := 21) hx hb hts in_RX6 hown hK hP 0 rfl rfl 9 (by decide) (hts _ (List.mem_of_getElem? (i := 3) rfl)) (fun _ h9 => h9) rfl dX6_ends_94 ?_
        refine lv_iload_n hx hb dX6_ends_97 rfl (lv_at hl 2 rfl) ?_
        refine ziald 2 0 k hx hb hK hP rfl rfl (by omega) (z_lt rfl) dX6_ends_98 ?_
        refine ziast 3 0 ((cx * 188) + k) hx hb hK hP hD hS rfl rfl (by omega) (z_lt rfl) dX6_ends_99 (fun H locs hP hD hS => ?_)
        have hP : va_P D vwCl [(x9, .inr (10, [.int 0, .int (nI cx), .int era, .int why, .int det, .int cau, .int (zI sv), .int (zI rj), .ref v9, .ref b9, .ref s9, .ref k9, .ref p9, .ref t9, .ref n9, .int (nI tn), .int (nI he), .int (nI en), .int (nI ln), .int (zI iw), .int (zI dg)])), (v9, .inl (cy 0, 188, .inl v)), (b9, .inl (cy 0, 188, .inl bf)), (p9, .inl (cy 0, 1504, .inl (upd (zpl pf bf cx k) ((cx * 188) + k) (bf k))))] H := hP
        have hD : va_D A [(x9, .inr (10, [.int 0, .int (nI cx), .int era, .int why, .int det, .int cau, .int (zI sv), .int (zI rj), .ref v9, .ref b9, .ref s9, .ref k9, .ref p9, .ref t9, .ref n9, .int (nI tn), .int (nI he), .int (nI en), .int (nI ln), .int (zI iw), .int (zI dg)])), (v9, .inl (cy 0, 188, .inl v)), (b9, .inl (cy 0, 188, .inl bf)), (p9, .inl (cy 0, 1504, .inl (upd (zpl pf bf cx k) ((cx * 188) + k) (bf k))))] := hD
        refine lv_iinc (v := nI (k + 1)) (lv' := [(2, .int (nI (k + 1))), (0, .ref x9), (1, .int iq)]) hx hb dX6_ends_100 hl (k := 2) rfl (by rw [show Int32.ofInt 1 = nI 1 from rfl, nI_add]) (by decide) rfl (fun ls hl => ?_)
        refine lv_goto (tgt := 72) hx hb dX6_ends_103 (by decide) ?_
        exact ih72 (k + 1) cx pf (upd (zpl pf bf cx k) ((cx * 188) + k) (bf k)) (by omega) hcx hfin (by omega) (zpl_s pf bf cx k) H locs hP hD hS ls (lv_sub hl [1, 2, 0] rfl)
  refine lv_aload_n hx hb dX6_ends_0 rfl (lv_at hl 0 rfl) ?_
  refine va_get (D := D) (ci := 10) (v := .int 0) (C := RX6) (T := TX6) (N := 21) hx hb hts in_RX6 hown hK hP 0 rfl rfl 0 (by decide) (hts _ (List.mem_of_getElem? (i := 1) rfl)) (fun _ h9 => h9) rfl dX6_ends_1 ?_
  refine lv_if_eq (tgt := 20) hx hb dX6_ends_4 (by decide) (fun c_2 => ?_) (fun c_2 => ?_)
  · refine lv_aload_n hx hb dX6_ends_20 rfl (lv_at hl 0 rfl) ?_
    refine va_get (D := D) (ci := 10) (v := .int (nI ch)) (C := RX6) (T := TX6) (N := 21) hx hb hts in_RX6 hown hK hP 0 rfl rfl 1 (by decide) (hts _ (List.mem_of_getElem? (i := 4) rfl)) (fun _ h9 => h9) rfl dX6_ends_21 ?_
    refine lv_bipush (v := 8) hx hb dX6_ends_24 (by decide) ?_
    refine lv_icmp_ne (tgt := 70) hx hb dX6_ends_26 (by decide) (fun c_3 => ?_) (fun c_3 => ?_)
    · have hne : ¬ ch = 8 := fun z => c_3 (by rw [z]; rfl)
      refine lv_iconst (v := 0) hx hb dX6_ends_70 (by decide) ?_
      refine lv_istore_n (lv' := [(2, .int 0), (0, .ref x9), (1, .int iq)]) hx hb dX6_ends_71 rfl hl (by decide) rfl (fun ls hl => ?_)
      exact L72 (188 - 0 + 1) 0 ch (zpk hq) (zpk hq) (by omega) (by omega) (by first | exact fun j hj => zph_a hq bf (by omega) j hj | exact zph_b hq bf) (Nat.lt_succ_self _) (zpl_0 _ _ _).symm s.heap [] hP hD hS ls (lv_sub hl [1, 2, 0] rfl)
    · obtain rfl : 8 = ch := ((nI_eq (a := ch) (b := 8) (by omega) (by omega)).mp c_3).symm
      refine lv_iconst (v := 0) hx hb dX6_ends_29 (by decide) ?_
      refine lv_istore_n (lv' := [(2, .int 0), (0, .ref x9), (1, .int iq)]) hx hb dX6_ends_30 rfl hl (by decide) rfl (fun ls hl => ?_)
      have L31 : ∀ (F : Nat) (k : Nat) (x31_0 : Nat → Int32), k ≤ 1316 → 1316 - k < F → x31_0 = zsf (zpk hq) k → ∀ (H : Heap) (locs : List Loc), va_P D vwCl [(x9, .inr (10, [.int 0, .int (nI 8), .int era, .int why, .int det, .int cau, .int (zI sv), .int (zI rj), .ref v9, .ref b9, .ref s9, .ref k9, .ref p9, .ref t9, .ref n9, .int (nI tn), .int (nI he), .int (nI en), .int (nI ln), .int (zI iw), .int (zI dg)])), (v9, .inl (cy 0, 188, .inl v)), (b9, .inl (cy 0, 188, .inl bf)), (p9, .inl (cy 0, 1504, .inl x31_0))] H → va_D A [(x9, .inr (10, [.int 0, .int (nI 8), .int era, .int why, .int det, .int cau, .int (zI sv), .int (zI rj), .ref v9, .ref b9, .ref s9, .ref k9, .ref p9, .ref t9, .ref n9, .int (nI tn), .int (nI he), .int (nI en), .int (nI ln), .int (zI iw), .int (zI dg)])), (v9, .inl (cy 0, 188, .inl v)), (b9, .inl (cy 0, 188, .inl bf)), (p9, .inl (cy 0, 1504, .inl x31_0))] → va_S A s.heap H locs → ∀ ls : Array Slot, lv_has ls 3 [(0, .ref x9), (1, .int iq), (2, .int (nI k))] → W p l e rmX6_ends_ok s m ([.ref x9, .int iq] : List Value).toArray below meth c H locs 0 0 Q (F0 m 31 ls []) := by
        intro F
        induction F with
        | zero =>
          intro k x31_0 hk hF ex31_0 H locs hP hD hS ls hl
          exact absurd hF (Nat.not_lt_zero _)
        | succ F ih31 =>
          intro k x31_0 hk hF ex31_0 H locs hP hD hS ls hl
          subst ex31_0
          refine lv_iload_n hx hb dX6_ends_31 rfl (lv_at hl 2 rfl) ?_
          refine lv_sipush (v := 1316) hx hb dX6_ends_32 (by decide) ?_
          refine lv_icmp_ge (tgt := 60) hx hb dX6_ends_35 (by decide) (fun c_4 => ?_) (fun c_4 => ?_)
          · have hk2 : 1316 ≤ k := (nI_leI (by omega) (by omega)).mp c_4
            obtain rfl : 1316 = k := by omega
            refine lv_aload_n hx hb dX6_ends_60 rfl (lv_at hl 0 rfl) ?_
            refine lv_dup hx hb dX6_ends_61 rfl ?_
            refine va_get (D := D) (ci := 10) (v := .int (nI 8)) (C := RX6) (T := TX6) (N := 21) hx hb hts in_RX6 hown hK hP 0 rfl rfl 1 (by decide) (hts _ (List.mem_of_getElem? (i := 4) rfl)) (fun _ h9 => h9) rfl dX6_ends_62 ?_
            refine lv_iconst (v := 1) hx hb dX6_ends_65 (by decide) ?_
            refine lv_isub hx hb dX6_ends_66 ?_
            refine z_top (y := nI 7) (by decide) ?_
            refine va_put (D := D) (ci := 10) (v := .int (nI 7)) (ty := .int) (C := RX6) (T := TX6) (N := 21) hx hb hts in_RX6 tyX6 tyX6_ok nmX6 hown hK hP hD hS 0 rfl rfl 1 (by decide) (hts _ (List.mem_of_getElem? (i := 4) rfl)) (fun _ h9 => h9) rfl (by decide +kernel) rfl rfl (Nat.le_of_ble_eq_true rfl) dX6_ends_67 (fun H locs hP hD hS => ?_)
            have hP : va_P D vwCl [(x9, .inr (10, [.int 0, .int (nI 7), .int era, .int why, .int det, .int cau, .int (zI sv), .int (zI rj), .ref v9, .ref b9, .ref s9, .ref k9, .ref p9, .ref t9, .ref n9, .int (nI tn), .int (nI he), .int (nI en), .int (nI ln), .int (zI iw), .int (zI dg)])), (v9, .inl (cy 0, 188, .inl v)), (b9, .inl (cy 0, 188, .inl bf)), (p9, .inl (cy 0, 1504, .inl (zsf (zpk hq) 1316)))] H := hP
            have hD : va_D A [(x9, .inr (10, [.int 0, .int (nI 7), .int era, .int why, .int det, .int cau, .int (zI sv), .int (zI rj), .ref v9, .ref b9, .ref s9, .ref k9, .ref p9, .ref t9, .ref n9, .int (nI tn), .int (nI he), .int (nI en), .int (nI ln), .int (zI iw), .int (zI dg)])), (v9, .inl (cy 0, 188, .inl v)), (b9, .inl (cy 0, 188, .inl bf)), (p9, .inl (cy 0, 1504, .inl (zsf (zpk hq) 1316)))] := hD
            refine lv_iconst (v := 0) hx hb dX6_ends_70 (by decide) ?_
            refine lv_istore_n (lv' := [(2, .int 0), (0, .ref x9), (1, .int iq)]) hx hb dX6_ends_71 rfl hl (by decide) rfl (fun ls hl => ?_)
            exact L72 (188 - 0 + 1) 0 7 (zsf (zpk hq) 1316) (zsf (zpk hq) 1316) (by omega) (by omega) (by first | exact fun j hj => zph_a hq bf (by omega) j hj | exact zph_b hq bf) (Nat.lt_succ_self _) (zpl_0 _ _ _).symm H locs hP hD hS ls (lv_sub hl [1, 2, 0] rfl)
          · have hk2 : k < 1316 := Nat.lt_of_not_le (fun z => c_4 (nI_le z (by omega)))
            refine lv_aload_n hx hb dX6_ends_38 rfl (lv_at hl 0 rfl) ?_
            refine va_get (D := D) (ci := 10) (v := .ref p9) (C := RX6) (T := TX6) (N := 21) hx hb hts in_RX6 hown hK hP 0 rfl rfl 12 (by decide) (hts _ (List.mem_of_getElem? (i := 5) rfl)) (fun _ h9 => h9) rfl dX6_ends_39 ?_
            refine lv_iload_n hx hb dX6_ends_42 rfl (lv_at hl 2 rfl) ?_
            refine lv_aload_n hx hb dX6_ends_43 rfl (lv_at hl 0 rfl) ?_
            refine va_get (D := D) (ci := 10) (v := .ref p9) (C := RX6) (T := TX6) (N := 21) hx hb hts in_RX6 hown hK hP 0 rfl rfl 12 (by decide) (hts _ (List.mem_of_getElem? (i := 5) rfl)) (fun _ h9 => h9) rfl dX6_ends_44 ?_
            refine lv_iload_n hx hb dX6_ends_47 rfl (lv_at hl 2 rfl) ?_
            refine lv_sipush (v := 188) hx hb dX6_ends_48 (by decide) ?_
            refine lv_iadd hx hb dX6_ends_51 ?_
            refine z_top (y := nI (k + 188)) (nI_add k 188) ?_
            refine ziald 3 0 (k + 188) hx hb hK hP rfl rfl (by omega) (z_lt rfl) dX6_ends_52 ?_
            refine ziast 3 0 k hx hb hK hP hD hS rfl rfl (by omega) (z_lt rfl) dX6_ends_53 (fun H locs hP hD hS => ?_)
            have hP : va_P D vwCl [(x9, .inr (10, [.int 0, .int (nI 8), .int era, .int why, .int det, .int cau, .int (zI sv), .int (zI rj), .ref v9, .ref b9, .ref s9, .ref k9, .ref p9, .ref t9, .ref n9, .int (nI tn), .int (nI he), .int (nI en), .int (nI ln), .int (zI iw), .int (zI dg)])), (v9, .inl (cy 0, 188, .inl v)), (b9, .inl (cy 0, 188, .inl bf)), (p9, .inl (cy 0, 1504, .inl (upd (zsf (zpk hq) k) k ((zsf (zpk hq) k) (k + 188)))))] H := hP
            have hD : va_D A [(x9, .inr (10, [.int 0, .int (nI 8), .int era, .int why, .int det, .int cau, .int (zI sv), .int (zI rj), .ref v9, .ref b9, .ref s9, .ref k9, .ref p9, .ref t9, .ref n9, .int (nI tn), .int (nI he), .int (nI en), .int (nI ln), .int (zI iw), .int (zI dg)])), (v9, .inl (cy 0, 188, .inl v)), (b9, .inl (cy 0, 188, .inl bf)), (p9, .inl (cy 0, 1504, .inl (upd (zsf (zpk hq) k) k ((zsf (zpk hq) k) (k + 188)))))] := hD
            refine lv_iinc (v := nI (k + 1)) (lv' := [(2, .int (nI (k + 1))), (0, .ref x9), (1, .int iq)]) hx hb dX6_ends_54 hl (k := 2) rfl (by rw [show Int32.ofInt 1 = nI 1 from rfl, nI_add]) (by decide) rfl (fun ls hl => ?_)
            refine lv_goto (tgt := 31) hx hb dX6_ends_57 (by decide) ?_
            exact ih31 (k + 1) (upd (zsf (zpk hq) k) k ((zsf (zpk hq) k) (k + 188))) (by omega) (by omega) (zsf_s _ k) H locs hP hD hS ls (lv_sub hl [1, 2, 0] rfl)
      exact L31 (1316 - 0 + 1) 0 (zpk hq) (by omega) (Nat.lt_succ_self _) (zsf_0 _).symm s.heap [] hP hD hS ls (lv_sub hl [1, 2, 0] rfl)
  · exact absurd rfl c_2

abbrev rmX6_casts_ok : Room := { frames := 2, cells := 0, slots := 0, locals := 42 }
set_option maxHeartbeats 4000000 in
set_option maxRecDepth 100000 in
theorem c_X6_casts_ok {G : zG} (hg : zGN G) (l : Launch) (D : va_G) (cy : Nat → ClassId) (x9 : Nat) (th : Int32) (ch : Nat) (era : Int32) (why : Int32) (det : Int32) (cau : Int32) (sv : Bool) (rj : Bool) (v9 : Nat) (b9 : Nat) (s9 : Nat) (k9 : Nat) (p9 : Nat) (t9 : Nat) (n9 : Nat) (tn : Nat) (he : Nat) (en : Nat) (ln : Nat) (iw : Bool) (dg : Bool) (v : Nat → Int32) (a : Nat) (b : Nat) (hab : a ≤ b) (hb24 : b < 24) (hz : zfi (fun j => zb (v 0) (nI j)) (b + 1 - a) a = -1) (hsq : zbok 40 (zpv v a (b + 1 - a) 0)) : zM G D vwCl (zT cy) l yX6_casts wsX6_casts rmX6_casts_ok [.ref x9, .int (nI a), .int (nI b)] [(x9, .inr (10, [.int th, .int (nI ch), .int era, .int why, .int det, .int cau, .int (zI sv), .int (zI rj), .ref v9, .ref b9, .ref s9, .ref k9, .ref p9, .ref t9, .ref n9, .int (nI tn), .int (nI he), .int (nI en), .int (nI ln), .int (zI iw), .int (zI dg)])), (v9, .inl (cy 0, 188, .inl v))] (some (.int (zbc 40 (zpv v a (b + 1 - a) 0) 0))) [(x9, .inr (10, [.int th, .int (nI ch), .int era, .int why, .int det, .int cau, .int (zI sv), .int (zI rj), .ref v9, .ref b9, .ref s9, .ref k9, .ref p9, .ref t9, .ref n9, .int (nI tn), .int (nI he), .int (nI en), .int (nI ln), .int (zI iw), .int (zI dg)])), (v9, .inl (cy 0, 188, .inl (zpv v a (b + 1 - a))))] := by
  refine zM_of (cc := cX6_casts) (maxL := 4) (ret := (some .int)) (by decide) rfl (Nat.le_of_ble_eq_true rfl) ?_
  intro p e s m below meth c A Q hend hx hb hml hr hts hown hlk hG hK hP hD hA hS ls hl
  have hown : s.vm.findClass RX6 = some m.cls := hown
  have in_RX6 : ∀ w ∈ u_ws RX6 TX6 21, w ∈ wsX6_casts := by decide +kernel
  have hl : lv_has ls 4 [(0, .ref x9), (1, .int (nI a)), (2, .int (nI b))] := hl
  refine lv_iload_n hx hb dX6_casts_0 rfl (lv_at hl 1 rfl) ?_
  refine zcS (As := [.int (nI a)]) (rest := []) [] hg.1 ⟨hx, hb, hml, hown, hts⟩ (c_X6_isNeedle hg l D cy (nI a)) (va_cwS 1 hts gX6_casts_X6_isNeedle rfl rfl rfl (by decide +kernel) ⟨Nat.le_of_ble_eq_true rfl, Nat.le_of_ble_eq_true rfl⟩) hG hK hP hD hS hA rfl rfl rfl  rfl hl.1 rfl (Nat.le_of_ble_eq_true rfl) dX6_casts_1 ⟨Nat.zero_le _, Nat.zero_le _⟩ (fun H locs hP hD hS => ?_)
  have hP : va_P D vwCl [(x9, .inr (10, [.int th, .int (nI ch), .int era, .int why, .int det, .int cau, .int (zI sv), .int (zI rj), .ref v9, .ref b9, .ref s9, .ref k9, .ref p9, .ref t9, .ref n9, .int (nI tn), .int (nI he), .int (nI en), .int (nI ln), .int (zI iw), .int (zI dg)])), (v9, .inl (cy 0, 188, .inl v))] H := hP
  have hD : va_D A [(x9, .inr (10, [.int th, .int (nI ch), .int era, .int why, .int det, .int cau, .int (zI sv), .int (zI rj), .ref v9, .ref b9, .ref s9, .ref k9, .ref p9, .ref t9, .ref n9, .int (nI tn), .int (nI he), .int (nI en), .int (nI ln), .int (zI iw), .int (zI dg)])), (v9, .inl (cy 0, 188, .inl v))] := hD
  refine lv_if_eq (tgt := 14) hx hb dX6_casts_4 (by decide) (fun c_1 => ?_) (fun c_1 => ?_)
  · replace c_1 := zI0 c_1
    exact absurd ((zic23 (k := a) (by omega)).symm.trans c_1) (by decide)
  · replace c_1 := zI1 c_1
    refine lv_iload_n hx hb dX6_casts_7 rfl (lv_at hl 2 rfl) ?_
    refine zcS (As := [.int (nI b)]) (rest := []) [] hg.1 ⟨hx, hb, hml, hown, hts⟩ (c_X6_isNeedle hg l D cy (nI b)) (va_cwS 1 hts gX6_casts_X6_isNeedle rfl rfl rfl (by decide +kernel) ⟨Nat.le_of_ble_eq_true rfl, Nat.le_of_ble_eq_true rfl⟩) hG hK hP hD hS hA rfl rfl rfl  rfl hl.1 rfl (Nat.le_of_ble_eq_true rfl) dX6_casts_8 ⟨Nat.zero_le _, Nat.zero_le _⟩ (fun H locs hP hD hS => ?_)
    have hP : va_P D vwCl [(x9, .inr (10, [.int th, .int (nI ch), .int era, .int why, .int det, .int cau, .int (zI sv), .int (zI rj), .ref v9, .ref b9, .ref s9, .ref k9, .ref p9, .ref t9, .ref n9, .int (nI tn), .int (nI he), .int (nI en), .int (nI ln), .int (zI iw), .int (zI dg)])), (v9, .inl (cy 0, 188, .inl v))] H := hP
    have hD : va_D A [(x9, .inr (10, [.int th, .int (nI ch), .int era, .int why, .int det, .int cau, .int (zI sv), .int (zI rj), .ref v9, .ref b9, .ref s9, .ref k9, .ref p9, .ref t9, .ref n9, .int (nI tn), .int (nI he), .int (nI en), .int (nI ln), .int (zI iw), .int (zI dg)])), (v9, .inl (cy 0, 188, .inl v))] := hD
    refine lv_if_ne (tgt := 20) hx hb dX6_casts_11 (by decide) (fun c_2 => ?_) (fun c_2 => ?_)
    · replace c_2 := zI1 c_2
      refine lv_iload_n hx hb dX6_casts_20 rfl (lv_at hl 1 rfl) ?_
      refine lv_iload_n hx hb dX6_casts_21 rfl (lv_at hl 2 rfl) ?_
      refine lv_icmp_le (tgt := 31) hx hb dX6_casts_22 (by decide) (fun c_3 => ?_) (fun c_3 => ?_)
      · refine lv_iload_n hx hb dX6_casts_31 rfl (lv_at hl 1 rfl) ?_
        refine lv_istore_n (lv' := [(3, .int (nI a)), (0, .ref x9), (1, .int (nI a)), (2, .int (nI b))]) hx hb dX6_casts_32 rfl hl (by decide) rfl (fun ls hl => ?_)
        have L33 : ∀ (F : Nat) (k : Nat), k ≤ b + 1 → zfi (fun j => zb (v 0) (nI j)) (b + 1 - a) a = zfi (fun j => zb (v 0) (nI j)) (b + 1 - k) k → b + 1 - k < F → ∀ (H : Heap) (locs : List Loc), va_P D vwCl [(x9, .inr (10, [.int th, .int (nI ch), .int era, .int why, .int det, .int cau, .int (zI sv), .int (zI rj), .ref v9, .ref b9, .ref s9, .ref k9, .ref p9, .ref t9, .ref n9, .int (nI tn), .int (nI he), .int (nI en), .int (nI ln), .int (zI iw), .int (zI dg)])), (v9, .inl (cy 0, 188, .inl v))] H → va_D A [(x9, .inr (10, [.int th, .int (nI ch), .int era, .int why, .int det, .int cau, .int (zI sv), .int (zI rj), .ref v9, .ref b9, .ref s9, .ref k9, .ref p9, .ref t9, .ref n9, .int (nI tn), .int (nI he), .int (nI en), .int (nI ln), .int (zI iw), .int (zI dg)])), (v9, .inl (cy 0, 188, .inl v))] → va_S A s.heap H locs → ∀ ls : Array Slot, lv_has ls 4 [(0, .ref x9), (1, .int (nI a)), (2, .int (nI b)), (3, .int (nI k))] → W p l e rmX6_casts_ok s m ([.ref x9, .int (nI a), .int (nI b)] : List Value).toArray below meth c H locs 0 0 Q (F0 m 33 ls []) := by
          intro F
          induction F with
          | zero =>
            intro k hk hr2 hF H locs hP hD hS ls hl
            exact absurd hF (Nat.not_lt_zero _)
          | succ F ih33 =>
            intro k hk hr2 hF H locs hP hD hS ls hl
            refine lv_iload_n hx hb dX6_casts_33 rfl (lv_at hl 3 rfl) ?_
            refine lv_iload_n hx hb dX6_casts_34 rfl (lv_at hl 2 rfl) ?_
            refine lv_icmp_gt (tgt := 60) hx hb dX6_casts_35 (by decide) (fun c_4 => ?_) (fun c_4 => ?_)
            · have hk2 : b < k := (nI_ltI (by omega) (by omega)).mp c_4
              obtain rfl : b + 1 = k := by omega
              refine lv_iload_n hx hb dX6_casts_60 rfl (lv_at hl 1 rfl) ?_
              refine lv_istore_n (lv' := [(3, .int (nI a)), (0, .ref x9), (1, .int (nI a)), (2, .int (nI b))]) hx hb dX6_casts_61 rfl hl (by decide) rfl (fun ls hl => ?_)
              have L62 : ∀ (F : Nat) (k : Nat) (n : Nat) (x62_0 : Nat → Int32), k ≤ b + 1 → k = a + n → b + 1 - k < F → x62_0 = zpv v a n → ∀ (H : Heap) (locs : List Loc), va_P D vwCl [(x9, .inr (10, [.int th, .int (nI ch), .int era, .int why, .int det, .int cau, .int (zI sv), .int (zI rj), .ref v9, .ref b9, .ref s9, .ref k9, .ref p9, .ref t9, .ref n9, .int (nI tn), .int (nI he), .int (nI en), .int (nI ln), .int (zI iw), .int (zI dg)])), (v9, .inl (cy 0, 188, .inl x62_0))] H → va_D A [(x9, .inr (10, [.int th, .int (nI ch), .int era, .int why, .int det, .int cau, .int (zI sv), .int (zI rj), .ref v9, .ref b9, .ref s9, .ref k9, .ref p9, .ref t9, .ref n9, .int (nI tn), .int (nI he), .int (nI en), .int (nI ln), .int (zI iw), .int (zI dg)])), (v9, .inl (cy 0, 188, .inl x62_0))] → va_S A s.heap H locs → ∀ ls : Array Slot, lv_has ls 4 [(0, .ref x9), (1, .int (nI a)), (2, .int (nI b)), (3, .int (nI k))] → W p l e rmX6_casts_ok s m ([.ref x9, .int (nI a), .int (nI b)] : List Value).toArray below meth c H locs 0 0 Q (F0 m 62 ls []) := by
                intro F
                induction F with
                | zero =>
                  intro k n x62_0 hk hn hF ex62_0 H locs hP hD hS ls hl
                  exact absurd hF (Nat.not_lt_zero _)
                | succ F ih62 =>
                  intro k n x62_0 hk hn hF ex62_0 H locs hP hD hS ls hl
                  subst ex62_0
                  refine lv_iload_n hx hb dX6_casts_62 rfl (lv_at hl 3 rfl) ?_
                  refine lv_iload_n hx hb dX6_casts_63 rfl (lv_at hl 2 rfl) ?_
                  refine lv_icmp_gt (tgt := 92) hx hb dX6_casts_64 (by decide) (fun c_5 => ?_) (fun c_5 => ?_)
                  · have hk2 : b < k := (nI_ltI (by omega) (by omega)).mp c_5
                    obtain rfl : b + 1 - a = n := by omega
                    refine lv_aload_n hx hb dX6_casts_92 rfl (lv_at hl 0 rfl) ?_
                    refine va_get (D := D) (ci := 10) (v := .ref v9) (C := RX6) (T := TX6) (N := 21) hx hb hts in_RX6 hown hK hP 0 rfl rfl 8 (by decide) (hts _ (List.mem_of_getElem? (i := 1) rfl)) (fun _ h9 => h9) rfl dX6_casts_93 ?_
                    refine lv_iconst (v := 0) hx hb dX6_casts_96 (by decide) ?_
                    refine ziald 1 0 0 hx hb hK hP rfl rfl (by omega) (z_lt rfl) dX6_casts_97 ?_
                    refine zcS (As := [.int ((zpv v a (b + 1 - a)) 0)]) (rest := []) [] hg.1 ⟨hx, hb, hml, hown, hts⟩ (c_X6_bits hg l D cy ((zpv v a (b + 1 - a)) 0) (by first | assumption | omega)) (va_cwS 1 hts gX6_casts_X6_bits rfl rfl rfl (by decide +kernel) ⟨Nat.le_of_ble_eq_true rfl, Nat.le_of_ble_eq_true rfl⟩) hG hK hP hD hS hA rfl rfl rfl  rfl hl.1 rfl (Nat.le_of_ble_eq_true rfl) dX6_casts_98 ⟨Nat.zero_le _, Nat.zero_le _⟩ (fun H locs hP hD hS => ?_)
                    have hP : va_P D vwCl [(x9, .inr (10, [.int th, .int (nI ch), .int era, .int why, .int det, .int cau, .int (zI sv), .int (zI rj), .ref v9, .ref b9, .ref s9, .ref k9, .ref p9, .ref t9, .ref n9, .int (nI tn), .int (nI he), .int (nI en), .int (nI ln), .int (zI iw), .int (zI dg)])), (v9, .inl (cy 0, 188, .inl (zpv v a (b + 1 - a))))] H := hP
                    have hD : va_D A [(x9, .inr (10, [.int th, .int (nI ch), .int era, .int why, .int det, .int cau, .int (zI sv), .int (zI rj), .ref v9, .ref b9, .ref s9, .ref k9, .ref p9, .ref t9, .ref n9, .int (nI tn), .int (nI he), .int (nI en), .int (nI ln), .int (zI iw), .int (zI dg)])), (v9, .inl (cy 0, 188, .inl (zpv v a (b + 1 - a))))] := hD
                    exact ziret hend hx hb hr hlk hK hP hD hS dX6_casts_101 (by rfl) rfl
                  · have hk2 : k ≤ b := Nat.le_of_not_lt (fun z => c_5 ((nI_ltI (by omega) (by omega)).mpr z))
                    refine lv_aload_n hx hb dX6_casts_67 rfl (lv_at hl 0 rfl) ?_
                    refine va_get (D := D) (ci := 10) (v := .ref v9) (C := RX6) (T := TX6) (N := 21) hx hb hts in_RX6 hown hK hP 0 rfl rfl 8 (by decide) (hts _ (List.mem_of_getElem? (i := 1) rfl)) (fun _ h9 => h9) rfl dX6_casts_68 ?_
                    refine lv_iconst (v := 0) hx hb dX6_casts_71 (by decide) ?_
                    refine lv_dup2_11 hx hb dX6_casts_72 rfl rfl ?_
                    refine ziald 1 0 0 hx hb hK hP rfl rfl (by omega) (z_lt rfl) dX6_casts_73 ?_
                    refine lv_iconst (v := 1) hx hb dX6_casts_74 (by decide) ?_
                    refine lv_iload_n hx hb dX6_casts_75 rfl (lv_at hl 3 rfl) ?_
                    refine lv_ishl hx hb dX6_casts_76 ?_
                    refine lv_ior hx hb dX6_casts_77 ?_
                    refine ziast 1 0 0 hx hb hK hP hD hS rfl rfl (by omega) (z_lt rfl) dX6_casts_78 (fun H locs hP hD hS => ?_)
                    have hP : va_P D vwCl [(x9, .inr (10, [.int th, .int (nI ch), .int era, .int why, .int det, .int cau, .int (zI sv), .int (zI rj), .ref v9, .ref b9, .ref s9, .ref k9, .ref p9, .ref t9, .ref n9, .int (nI tn), .int (nI he), .int (nI en), .int (nI ln), .int (zI iw), .int (zI dg)])), (v9, .inl (cy 0, 188, .inl (upd (zpv v a n) 0 (((zpv v a n) 0) ||| (1 <<< ((nI k) &&& 31))))))] H := hP
                    have hD : va_D A [(x9, .inr (10, [.int th, .int (nI ch), .int era, .int why, .int det, .int cau, .int (zI sv), .int (zI rj), .ref v9, .ref b9, .ref s9, .ref k9, .ref p9, .ref t9, .ref n9, .int (nI tn), .int (nI he), .int (nI en), .int (nI ln), .int (zI iw), .int (zI dg)])), (v9, .inl (cy 0, 188, .inl (upd (zpv v a n) 0 (((zpv v a n) 0) ||| (1 <<< ((nI k) &&& 31))))))] := hD
                    refine lv_aload_n hx hb dX6_casts_79 rfl (lv_at hl 0 rfl) ?_
                    refine lv_iload_n hx hb dX6_casts_80 rfl (lv_at hl 3 rfl) ?_
                    refine lv_iconst (v := 1) hx hb dX6_casts_81 (by decide) ?_
                    refine lv_iconst (v := 0) hx hb dX6_casts_82 (by decide) ?_
                    refine zcV (As := [.int (nI k), .int 1, .int 0]) (rest := []) [0, 1] 0 hg.1 ⟨hx, hb, hml, hown, hts⟩ (c_X6_puts hg l D cy x9 th ch era why det cau sv rj v9 b9 s9 k9 p9 t9 n9 tn he en ln iw dg (upd (zpv v a n) 0 (((zpv v a n) 0) ||| (1 <<< ((nI k) &&& 31)))) k 1 0 (by first | assumption | omega)) (cwV 3 hts gX6_casts_X6_puts rfl rfl rfl (by decide +kernel) ⟨Nat.le_of_ble_eq_true rfl, Nat.le_of_ble_eq_true rfl⟩) hG hK hP hD hS hA rfl rfl (Eq.trans (b := [x9, v9]) rfl rfl) rfl rfl rfl hl.1 rfl (Nat.le_of_ble_eq_true rfl) dX6_casts_83 ⟨Nat.zero_le _, Nat.zero_le _⟩ (fun H locs hP hD hS => ?_)
                    have hP : va_P D vwCl [(x9, .inr (10, [.int th, .int (nI ch), .int era, .int why, .int det, .int cau, .int (zI sv), .int (zI rj), .ref v9, .ref b9, .ref s9, .ref k9, .ref p9, .ref t9, .ref n9, .int (nI tn), .int (nI he), .int (nI en), .int (nI ln), .int (zI iw), .int (zI dg)])), (v9, .inl (cy 0, 188, .inl (zpt (upd (zpv v a n) 0 (((zpv v a n) 0) ||| (1 <<< ((nI k) &&& 31)))) k 1 0)))] H := hP
                    have hD : va_D A [(x9, .inr (10, [.int th, .int (nI ch), .int era, .int why, .int det, .int cau, .int (zI sv), .int (zI rj), .ref v9, .ref b9, .ref s9, .ref k9, .ref p9, .ref t9, .ref n9, .int (nI tn), .int (nI he), .int (nI en), .int (nI ln), .int (zI iw), .int (zI dg)])), (v9, .inl (cy 0, 188, .inl (zpt (upd (zpv v a n) 0 (((zpv v a n) 0) ||| (1 <<< ((nI k) &&& 31)))) k 1 0)))] := hD
                    refine lv_iinc (v := nI (k + 1)) (lv' := [(3, .int (nI (k + 1))), (0, .ref x9), (1, .int (nI a)), (2, .int (nI b))]) hx hb dX6_casts_86 hl (k := 3) rfl (by rw [show Int32.ofInt 1 = nI 1 from rfl, nI_add]) (by decide) rfl (fun ls hl => ?_)
                    refine lv_goto (tgt := 62) hx hb dX6_casts_89 (by decide) ?_
                    exact ih62 (k + 1) (n + 1) (zpt (upd (zpv v a n) 0 (((zpv v a n) 0) ||| (1 <<< ((nI k) &&& 31)))) k 1 0) (by omega) (by omega) (by omega) (by rw [hn]; rfl) H locs hP hD hS ls (lv_sub hl [1, 2, 3, 0] rfl)
              exact L62 (b + 1 - a + 1) a 0 v (by omega) (by omega) (Nat.lt_succ_self _) (by rfl) H locs hP hD hS ls (lv_sub hl [1, 2, 3, 0] rfl)
            · have hk2 : k ≤ b := Nat.le_of_not_lt (fun z => c_4 ((nI_ltI (by omega) (by omega)).mpr z))
              refine lv_aload_n hx hb dX6_casts_38 rfl (lv_at hl 0 rfl) ?_
              refine lv_iload_n hx hb dX6_casts_39 rfl (lv_at hl 3 rfl) ?_
              refine zcV (As := [.int (nI k)]) (rest := []) [0, 1] 0 hg.1 ⟨hx, hb, hml, hown, hts⟩ (c_X6_isOn hg l D cy x9 th ch era why det cau sv rj v9 b9 s9 k9 p9 t9 n9 tn he en ln iw dg v (nI k)) (cwV 1 hts gX6_casts_X6_isOn rfl rfl rfl (by decide +kernel) ⟨Nat.le_of_ble_eq_true rfl, Nat.le_of_ble_eq_true rfl⟩) hG hK hP hD hS hA rfl rfl rfl rfl rfl rfl hl.1 rfl (Nat.le_of_ble_eq_true rfl) dX6_casts_40 ⟨Nat.zero_le _, Nat.zero_le _⟩ (fun H locs hP hD hS => ?_)
              have hP : va_P D vwCl [(x9, .inr (10, [.int th, .int (nI ch), .int era, .int why, .int det, .int cau, .int (zI sv), .int (zI rj), .ref v9, .ref b9, .ref s9, .ref k9, .ref p9, .ref t9, .ref n9, .int (nI tn), .int (nI he), .int (nI en), .int (nI ln), .int (zI iw), .int (zI dg)])), (v9, .inl (cy 0, 188, .inl v))] H := hP
              have hD : va_D A [(x9, .inr (10, [.int th, .int (nI ch), .int era, .int why, .int det, .int cau, .int (zI sv), .int (zI rj), .ref v9, .ref b9, .ref s9, .ref k9, .ref p9, .ref t9, .ref n9, .int (nI tn), .int (nI he), .int (nI en), .int (nI ln), .int (zI iw), .int (zI dg)])), (v9, .inl (cy 0, 188, .inl v))] := hD
              refine lv_if_eq (tgt := 54) hx hb dX6_casts_43 (by decide) (fun c_6 => ?_) (fun c_6 => ?_)
              · replace c_6 := zI0 c_6
                refine lv_iinc (v := nI (k + 1)) (lv' := [(3, .int (nI (k + 1))), (0, .ref x9), (1, .int (nI a)), (2, .int (nI b))]) hx hb dX6_casts_54 hl (k := 3) rfl (by rw [show Int32.ofInt 1 = nI 1 from rfl, nI_add]) (by decide) rfl (fun ls hl => ?_)
                refine lv_goto (tgt := 33) hx hb dX6_casts_57 (by decide) ?_
                exact ih33 (k + 1) (by omega) (by rw [hr2, show b + 1 - k = (b + 1 - (k + 1)) + 1 by omega, zfi]; simp [c_4, c_6]) (by omega) H locs hP hD hS ls (lv_sub hl [1, 2, 3, 0] rfl)
              · replace c_6 := zI1 c_6
                exact absurd (show nI k = -1 from (show zfi (fun j => zb (v 0) (nI j)) (b + 1 - a) a = nI k from (by rw [hr2, show b + 1 - k = (b + 1 - (k + 1)) + 1 by omega, zfi]; simp [c_4, c_6])).symm.trans hz) (nI_m1 (by omega))
        exact L33 (b + 1 - a + 1) a (by omega) rfl (Nat.lt_succ_self _) H locs hP hD hS ls (lv_sub hl [1, 2, 3, 0] rfl)
      · exact absurd (nI_le hab (by omega)) c_3
    · replace c_2 := zI0 c_2
      exact absurd ((zic23 hb24).symm.trans c_2) (by decide)

abbrev rmX6_casts_rej : Room := { frames := 2, cells := 0, slots := 0, locals := 44 }
set_option maxHeartbeats 4000000 in
set_option maxRecDepth 100000 in
theorem c_X6_casts_rej {G : zG} (hg : zGN G) (l : Launch) (D : va_G) (cy : Nat → ClassId) (x9 : Nat) (th : Int32) (ch : Nat) (era : Int32) (why : Int32) (det : Int32) (cau : Int32) (sv : Bool) (rj : Bool) (v9 : Nat) (b9 : Nat) (s9 : Nat) (k9 : Nat) (p9 : Nat) (t9 : Nat) (n9 : Nat) (tn : Nat) (he : Nat) (en : Nat) (ln : Nat) (iw : Bool) (dg : Bool) (v : Nat → Int32) (a : Nat) (b : Nat) (hab : a ≤ b) (hb24 : b < 24) (hz : ¬ zfi (fun j => zb (v 0) (nI j)) (b + 1 - a) a = -1) : zM G D vwCl (zT cy) l yX6_casts wsX6_casts rmX6_casts_rej [.ref x9, .int (nI a), .int (nI b)] [(x9, .inr (10, [.int th, .int (nI ch), .int era, .int why, .int det, .int cau, .int (zI sv), .int (zI rj), .ref v9, .ref b9, .ref s9, .ref k9, .ref p9, .ref t9, .ref n9, .int (nI tn), .int (nI he), .int (nI en), .int (nI ln), .int (zI iw), .int (zI dg)])), (v9, .inl (cy 0, 188, .inl v))] (some (.int 0)) [(x9, .inr (10, [.int 3, .int (nI ch), .int era, .int 1, .int (zfi (fun j => zb (v 0) (nI j)) (b + 1 - a) a), .int 0, .int (zI sv), .int (zI true), .ref v9, .ref b9, .ref s9, .ref k9, .ref p9, .ref t9, .ref n9, .int (nI tn), .int (nI he), .int (nI en), .int (nI ln), .int (zI iw), .int (zI dg)])), (v9, .inl (cy 0, 188, .inl v))] := by
  refine zM_of (cc := cX6_casts) (maxL := 4) (ret := (some .int)) (by decide) rfl (Nat.le_of_ble_eq_true rfl) ?_
  intro p e s m below meth c A Q hend hx hb hml hr hts hown hlk hG hK hP hD hA hS ls hl
  have hown : s.vm.findClass RX6 = some m.cls := hown
  have hl : lv_has ls 4 [(0, .ref x9), (1, .int (nI a)), (2, .int (nI b))] := hl
  refine lv_iload_n hx hb dX6_casts_0 rfl (lv_at hl 1 rfl) ?_
  refine zcS (As := [.int (nI a)]) (rest := []) [] hg.1 ⟨hx, hb, hml, hown, hts⟩ (c_X6_isNeedle hg l D cy (nI a)) (va_cwS 1 hts gX6_casts_X6_isNeedle rfl rfl rfl (by decide +kernel) ⟨Nat.le_of_ble_eq_true rfl, Nat.le_of_ble_eq_true rfl⟩) hG hK hP hD hS hA rfl rfl rfl  rfl hl.1 rfl (Nat.le_of_ble_eq_true rfl) dX6_casts_1 ⟨Nat.zero_le _, Nat.zero_le _⟩ (fun H locs hP hD hS => ?_)
  have hP : va_P D vwCl [(x9, .inr (10, [.int th, .int (nI ch), .int era, .int why, .int det, .int cau, .int (zI sv), .int (zI rj), .ref v9, .ref b9, .ref s9, .ref k9, .ref p9, .ref t9, .ref n9, .int (nI tn), .int (nI he), .int (nI en), .int (nI ln), .int (zI iw), .int (zI dg)])), (v9, .inl (cy 0, 188, .inl v))] H := hP
  have hD : va_D A [(x9, .inr (10, [.int th, .int (nI ch), .int era, .int why, .int det, .int cau, .int (zI sv), .int (zI rj), .ref v9, .ref b9, .ref s9, .ref k9, .ref p9, .ref t9, .ref n9, .int (nI tn), .int (nI he), .int (nI en), .int (nI ln), .int (zI iw), .int (zI dg)])), (v9, .inl (cy 0, 188, .inl v))] := hD
  refine lv_if_eq (tgt := 14) hx hb dX6_casts_4 (by decide) (fun c_1 => ?_) (fun c_1 => ?_)
  · replace c_1 := zI0 c_1
    exact absurd ((zic23 (k := a) (by omega)).symm.trans c_1) (by decide)
  · replace c_1 := zI1 c_1
    refine lv_iload_n hx hb dX6_casts_7 rfl (lv_at hl 2 rfl) ?_
    refine zcS (As := [.int (nI b)]) (rest := []) [] hg.1 ⟨hx, hb, hml, hown, hts⟩ (c_X6_isNeedle hg l D cy (nI b)) (va_cwS 1 hts gX6_casts_X6_isNeedle rfl rfl rfl (by decide +kernel) ⟨Nat.le_of_ble_eq_true rfl, Nat.le_of_ble_eq_true rfl⟩) hG hK hP hD hS hA rfl rfl rfl  rfl hl.1 rfl (Nat.le_of_ble_eq_true rfl) dX6_casts_8 ⟨Nat.zero_le _, Nat.zero_le _⟩ (fun H locs hP hD hS => ?_)
    have hP : va_P D vwCl [(x9, .inr (10, [.int th, .int (nI ch), .int era, .int why, .int det, .int cau, .int (zI sv), .int (zI rj), .ref v9, .ref b9, .ref s9, .ref k9, .ref p9, .ref t9, .ref n9, .int (nI tn), .int (nI he), .int (nI en), .int (nI ln), .int (zI iw), .int (zI dg)])), (v9, .inl (cy 0, 188, .inl v))] H := hP
    have hD : va_D A [(x9, .inr (10, [.int th, .int (nI ch), .int era, .int why, .int det, .int cau, .int (zI sv), .int (zI rj), .ref v9, .ref b9, .ref s9, .ref k9, .ref p9, .ref t9, .ref n9, .int (nI tn), .int (nI he), .int (nI en), .int (nI ln), .int (zI iw), .int (zI dg)])), (v9, .inl (cy 0, 188, .inl v))] := hD
    refine lv_if_ne (tgt := 20) hx hb dX6_casts_11 (by decide) (fun c_2 => ?_) (fun c_2 => ?_)
    · replace c_2 := zI1 c_2
      refine lv_iload_n hx hb dX6_casts_20 rfl (lv_at hl 1 rfl) ?_
      refine lv_iload_n hx hb dX6_casts_21 rfl (lv_at hl 2 rfl) ?_
      refine lv_icmp_le (tgt := 31) hx hb dX6_casts_22 (by decide) (fun c_3 => ?_) (fun c_3 => ?_)
      · refine lv_iload_n hx hb dX6_casts_31 rfl (lv_at hl 1 rfl) ?_
        refine lv_istore_n (lv' := [(3, .int (nI a)), (0, .ref x9), (1, .int (nI a)), (2, .int (nI b))]) hx hb dX6_casts_32 rfl hl (by decide) rfl (fun ls hl => ?_)
        have L33 : ∀ (F : Nat) (k : Nat), k ≤ b + 1 → zfi (fun j => zb (v 0) (nI j)) (b + 1 - a) a = zfi (fun j => zb (v 0) (nI j)) (b + 1 - k) k → b + 1 - k < F → ∀ (H : Heap) (locs : List Loc), va_P D vwCl [(x9, .inr (10, [.int th, .int (nI ch), .int era, .int why, .int det, .int cau, .int (zI sv), .int (zI rj), .ref v9, .ref b9, .ref s9, .ref k9, .ref p9, .ref t9, .ref n9, .int (nI tn), .int (nI he), .int (nI en), .int (nI ln), .int (zI iw), .int (zI dg)])), (v9, .inl (cy 0, 188, .inl v))] H → va_D A [(x9, .inr (10, [.int th, .int (nI ch), .int era, .int why, .int det, .int cau, .int (zI sv), .int (zI rj), .ref v9, .ref b9, .ref s9, .ref k9, .ref p9, .ref t9, .ref n9, .int (nI tn), .int (nI he), .int (nI en), .int (nI ln), .int (zI iw), .int (zI dg)])), (v9, .inl (cy 0, 188, .inl v))] → va_S A s.heap H locs → ∀ ls : Array Slot, lv_has ls 4 [(0, .ref x9), (1, .int (nI a)), (2, .int (nI b)), (3, .int (nI k))] → W p l e rmX6_casts_rej s m ([.ref x9, .int (nI a), .int (nI b)] : List Value).toArray below meth c H locs 0 0 Q (F0 m 33 ls []) := by
          intro F
          induction F with
          | zero =>
            intro k hk hr2 hF H locs hP hD hS ls hl
            exact absurd hF (Nat.not_lt_zero _)
          | succ F ih33 =>
            intro k hk hr2 hF H locs hP hD hS ls hl
            refine lv_iload_n hx hb dX6_casts_33 rfl (lv_at hl 3 rfl) ?_
            refine lv_iload_n hx hb dX6_casts_34 rfl (lv_at hl 2 rfl) ?_
            refine lv_icmp_gt (tgt := 60) hx hb dX6_casts_35 (by decide) (fun c_4 => ?_) (fun c_4 => ?_)
            · have hk2 : b < k := (nI_ltI (by omega) (by omega)).mp c_4
              obtain rfl : b + 1 = k := by omega
              exact absurd (by rw [hr2, Nat.sub_self]; rfl) hz
            · have hk2 : k ≤ b := Nat.le_of_not_lt (fun z => c_4 ((nI_ltI (by omega) (by omega)).mpr z))
              refine lv_aload_n hx hb dX6_casts_38 rfl (lv_at hl 0 rfl) ?_
              refine lv_iload_n hx hb dX6_casts_39 rfl (lv_at hl 3 rfl) ?_
              refine zcV (As := [.int (nI k)]) (rest := []) [0, 1] 0 hg.1 ⟨hx, hb, hml, hown, hts⟩ (c_X6_isOn hg l D cy x9 th ch era why det cau sv rj v9 b9 s9 k9 p9 t9 n9 tn he en ln iw dg v (nI k)) (cwV 1 hts gX6_casts_X6_isOn rfl rfl rfl (by decide +kernel) ⟨Nat.le_of_ble_eq_true rfl, Nat.le_of_ble_eq_true rfl⟩) hG hK hP hD hS hA rfl rfl rfl rfl rfl rfl hl.1 rfl (Nat.le_of_ble_eq_true rfl) dX6_casts_40 ⟨Nat.zero_le _, Nat.zero_le _⟩ (fun H locs hP hD hS => ?_)
              have hP : va_P D vwCl [(x9, .inr (10, [.int th, .int (nI ch), .int era, .int why, .int det, .int cau, .int (zI sv), .int (zI rj), .ref v9, .ref b9, .ref s9, .ref k9, .ref p9, .ref t9, .ref n9, .int (nI tn), .int (nI he), .int (nI en), .int (nI ln), .int (zI iw), .int (zI dg)])), (v9, .inl (cy 0, 188, .inl v))] H := hP
              have hD : va_D A [(x9, .inr (10, [.int th, .int (nI ch), .int era, .int why, .int det, .int cau, .int (zI sv), .int (zI rj), .ref v9, .ref b9, .ref s9, .ref k9, .ref p9, .ref t9, .ref n9, .int (nI tn), .int (nI he), .int (nI en), .int (nI ln), .int (zI iw), .int (zI dg)])), (v9, .inl (cy 0, 188, .inl v))] := hD
              refine lv_if_eq (tgt := 54) hx hb dX6_casts_43 (by decide) (fun c_5 => ?_) (fun c_5 => ?_)
              · replace c_5 := zI0 c_5
                refine lv_iinc (v := nI (k + 1)) (lv' := [(3, .int (nI (k + 1))), (0, .ref x9), (1, .int (nI a)), (2, .int (nI b))]) hx hb dX6_casts_54 hl (k := 3) rfl (by rw [show Int32.ofInt 1 = nI 1 from rfl, nI_add]) (by decide) rfl (fun ls hl => ?_)
                refine lv_goto (tgt := 33) hx hb dX6_casts_57 (by decide) ?_
                exact ih33 (k + 1) (by omega) (by rw [hr2, show b + 1 - k = (b + 1 - (k + 1)) + 1 by omega, zfi]; simp [c_4, c_5]) (by omega) H locs hP hD hS ls (lv_sub hl [1, 2, 3, 0] rfl)
              · replace c_5 := zI1 c_5
                refine lv_aload_n hx hb dX6_casts_46 rfl (lv_at hl 0 rfl) ?_
                refine lv_iconst (v := 3) hx hb dX6_casts_47 (by decide) ?_
                refine lv_iconst (v := 1) hx hb dX6_casts_48 (by decide) ?_
                refine lv_iload_n hx hb dX6_casts_49 rfl (lv_at hl 3 rfl) ?_
                refine zcV (As := [.int 3, .int 1, .int (nI k)]) (rest := []) [0] 0 hg.1 ⟨hx, hb, hml, hown, hts⟩ (c_X6_rejects hg l D cy x9 th ch era why det cau sv rj v9 b9 s9 k9 p9 t9 n9 tn he en ln iw dg 3 1 (nI k)) (cwV 3 hts gX6_casts_X6_rejects rfl rfl rfl (by decide +kernel) ⟨Nat.le_of_ble_eq_true rfl, Nat.le_of_ble_eq_true rfl⟩) hG hK hP hD hS hA rfl rfl (Eq.trans (b := [x9]) rfl rfl) rfl rfl rfl hl.1 rfl (Nat.le_of_ble_eq_true rfl) dX6_casts_50 ⟨Nat.zero_le _, Nat.zero_le _⟩ (fun H locs hP hD hS => ?_)
                have hP : va_P D vwCl [(x9, .inr (10, [.int 3, .int (nI ch), .int era, .int 1, .int (nI k), .int 0, .int (zI sv), .int (zI true), .ref v9, .ref b9, .ref s9, .ref k9, .ref p9, .ref t9, .ref n9, .int (nI tn), .int (nI he), .int (nI en), .int (nI ln), .int (zI iw), .int (zI dg)])), (v9, .inl (cy 0, 188, .inl v))] H := hP
                have hD : va_D A [(x9, .inr (10, [.int 3, .int (nI ch), .int era, .int 1, .int (nI k), .int 0, .int (zI sv), .int (zI true), .ref v9, .ref b9, .ref s9, .ref k9, .ref p9, .ref t9, .ref n9, .int (nI tn), .int (nI he), .int (nI en), .int (nI ln), .int (zI iw), .int (zI dg)])), (v9, .inl (cy 0, 188, .inl v))] := hD
                exact ziret hend hx hb hr hlk hK hP hD hS dX6_casts_53 rfl (by rw [show zfi (fun j => zb (v 0) (nI j)) (b + 1 - a) a = nI k from (by rw [hr2, show b + 1 - k = (b + 1 - (k + 1)) + 1 by omega, zfi]; simp [c_4, c_5])])
        exact L33 (b + 1 - a + 1) a (by omega) rfl (Nat.lt_succ_self _) H locs hP hD hS ls (lv_sub hl [1, 2, 3, 0] rfl)
      · exact absurd (nI_le hab (by omega)) c_3
    · replace c_2 := zI0 c_2
      exact absurd ((zic23 hb24).symm.trans c_2) (by decide)

abbrev rmX6_casts_f1 : Room := { frames := 2, cells := 0, slots := 0, locals := 42 }
set_option maxHeartbeats 4000000 in
set_option maxRecDepth 100000 in
theorem c_X6_casts_f1 {G : zG} (hg : zGN G) (l : Launch) (D : va_G) (cy : Nat → ClassId) (x9 : Nat) (th : Int32) (ch : Nat) (era : Int32) (why : Int32) (det : Int32) (cau : Int32) (sv : Bool) (rj : Bool) (v9 : Nat) (b9 : Nat) (s9 : Nat) (k9 : Nat) (p9 : Nat) (t9 : Nat) (n9 : Nat) (tn : Nat) (he : Nat) (en : Nat) (ln : Nat) (iw : Bool) (dg : Bool) (nq : Int32) (lq : Int32) (hq : (zic 0 23 nq && zic 0 23 lq) = false) : zM G D vwCl (zT cy) l yX6_casts wsX6_casts rmX6_casts_f1 [.ref x9, .int nq, .int lq] [(x9, .inr (10, [.int th, .int (nI ch), .int era, .int why, .int det, .int cau, .int (zI sv), .int (zI rj), .ref v9, .ref b9, .ref s9, .ref k9, .ref p9, .ref t9, .ref n9, .int (nI tn), .int (nI he), .int (nI en), .int (nI ln), .int (zI iw), .int (zI dg)]))] (some (.int 0)) [(x9, .inr (10, [.int 1, .int (nI ch), .int era, .int why, .int det, .int cau, .int (zI sv), .int (zI rj), .ref v9, .ref b9, .ref s9, .ref k9, .ref p9, .ref t9, .ref n9, .int (nI tn), .int (nI he), .int (nI en), .int (nI ln), .int (zI iw), .int (zI dg)]))] := by
  refine zM_of (cc := cX6_casts) (maxL := 4) (ret := (some .int)) (by decide) rfl (Nat.le_of_ble_eq_true rfl) ?_
  intro p e s m below meth c A Q hend hx hb hml hr hts hown hlk hG hK hP hD hA hS ls hl
  have hown : s.vm.findClass RX6 = some m.cls := hown
  have hl : lv_has ls 4 [(0, .ref x9), (1, .int nq), (2, .int lq)] := hl
  refine lv_iload_n hx hb dX6_casts_0 rfl (lv_at hl 1 rfl) ?_
  refine zcS (As := [.int nq]) (rest := []) [] hg.1 ⟨hx, hb, hml, hown, hts⟩ (c_X6_isNeedle hg l D cy nq) (va_cwS 1 hts gX6_casts_X6_isNeedle rfl rfl rfl (by decide +kernel) ⟨Nat.le_of_ble_eq_true rfl, Nat.le_of_ble_eq_true rfl⟩) hG hK hP hD hS hA rfl rfl rfl  rfl hl.1 rfl (Nat.le_of_ble_eq_true rfl) dX6_casts_1 ⟨Nat.zero_le _, Nat.zero_le _⟩ (fun H locs hP hD hS => ?_)
  have hP : va_P D vwCl [(x9, .inr (10, [.int th, .int (nI ch), .int era, .int why, .int det, .int cau, .int (zI sv), .int (zI rj), .ref v9, .ref b9, .ref s9, .ref k9, .ref p9, .ref t9, .ref n9, .int (nI tn), .int (nI he), .int (nI en), .int (nI ln), .int (zI iw), .int (zI dg)]))] H := hP
  have hD : va_D A [(x9, .inr (10, [.int th, .int (nI ch), .int era, .int why, .int det, .int cau, .int (zI sv), .int (zI rj), .ref v9, .ref b9, .ref s9, .ref k9, .ref p9, .ref t9, .ref n9, .int (nI tn), .int (nI he), .int (nI en), .int (nI ln), .int (zI iw), .int (zI dg)]))] := hD
  refine lv_if_eq (tgt := 14) hx hb dX6_casts_4 (by decide) (fun c_1 => ?_) (fun c_1 => ?_)
  · replace c_1 := zI0 c_1
    refine lv_aload_n hx hb dX6_casts_14 rfl (lv_at hl 0 rfl) ?_
    refine lv_iconst (v := 1) hx hb dX6_casts_15 (by decide) ?_
    refine zcV (As := [.int 1]) (rest := []) [0] 0 hg.1 ⟨hx, hb, hml, hown, hts⟩ (c_X6_fail hg l D cy x9 th ch era why det cau sv rj v9 b9 s9 k9 p9 t9 n9 tn he en ln iw dg 1) (cwV 1 hts gX6_casts_X6_fail rfl rfl rfl (by decide +kernel) ⟨Nat.le_of_ble_eq_true rfl, Nat.le_of_ble_eq_true rfl⟩) hG hK hP hD hS hA rfl rfl (Eq.trans (b := [x9]) rfl rfl) rfl rfl rfl hl.1 rfl (Nat.le_of_ble_eq_true rfl) dX6_casts_16 ⟨Nat.zero_le _, Nat.zero_le _⟩ (fun H locs hP hD hS => ?_)
    have hP : va_P D vwCl [(x9, .inr (10, [.int 1, .int (nI ch), .int era, .int why, .int det, .int cau, .int (zI sv), .int (zI rj), .ref v9, .ref b9, .ref s9, .ref k9, .ref p9, .ref t9, .ref n9, .int (nI tn), .int (nI he), .int (nI en), .int (nI ln), .int (zI iw), .int (zI dg)]))] H := hP
    have hD : va_D A [(x9, .inr (10, [.int 1, .int (nI ch), .int era, .int why, .int det, .int cau, .int (zI sv), .int (zI rj), .ref v9, .ref b9, .ref s9, .ref k9, .ref p9, .ref t9, .ref n9, .int (nI tn), .int (nI he), .int (nI en), .int (nI ln), .int (zI iw), .int (zI dg)]))] := hD
    exact ziret hend hx hb hr hlk hK hP hD hS dX6_casts_19 rfl rfl
  · replace c_1 := zI1 c_1
    refine lv_iload_n hx hb dX6_casts_7 rfl (lv_at hl 2 rfl) ?_
    refine zcS (As := [.int lq]) (rest := []) [] hg.1 ⟨hx, hb, hml, hown, hts⟩ (c_X6_isNeedle hg l D cy lq) (va_cwS 1 hts gX6_casts_X6_isNeedle rfl rfl rfl (by decide +kernel) ⟨Nat.le_of_ble_eq_true rfl, Nat.le_of_ble_eq_true rfl⟩) hG hK hP hD hS hA rfl rfl rfl  rfl hl.1 rfl (Nat.le_of_ble_eq_true rfl) dX6_casts_8 ⟨Nat.zero_le _, Nat.zero_le _⟩ (fun H locs hP hD hS => ?_)
    have hP : va_P D vwCl [(x9, .inr (10, [.int th, .int (nI ch), .int era, .int why, .int det, .int cau, .int (zI sv), .int (zI rj), .ref v9, .ref b9, .ref s9, .ref k9, .ref p9, .ref t9, .ref n9, .int (nI tn), .int (nI he), .int (nI en), .int (nI ln), .int (zI iw), .int (zI dg)]))] H := hP
    have hD : va_D A [(x9, .inr (10, [.int th, .int (nI ch), .int era, .int why, .int det, .int cau, .int (zI sv), .int (zI rj), .ref v9, .ref b9, .ref s9, .ref k9, .ref p9, .ref t9, .ref n9, .int (nI tn), .int (nI he), .int (nI en), .int (nI ln), .int (zI iw), .int (zI dg)]))] := hD
    refine lv_if_ne (tgt := 20) hx hb dX6_casts_11 (by decide) (fun c_2 => ?_) (fun c_2 => ?_)
    · replace c_2 := zI1 c_2
      exact absurd hq (by simp [c_1, c_2])
    · replace c_2 := zI0 c_2
      refine lv_aload_n hx hb dX6_casts_14 rfl (lv_at hl 0 rfl) ?_
      refine lv_iconst (v := 1) hx hb dX6_casts_15 (by decide) ?_
      refine zcV (As := [.int 1]) (rest := []) [0] 0 hg.1 ⟨hx, hb, hml, hown, hts⟩ (c_X6_fail hg l D cy x9 th ch era why det cau sv rj v9 b9 s9 k9 p9 t9 n9 tn he en ln iw dg 1) (cwV 1 hts gX6_casts_X6_fail rfl rfl rfl (by decide +kernel) ⟨Nat.le_of_ble_eq_true rfl, Nat.le_of_ble_eq_true rfl⟩) hG hK hP hD hS hA rfl rfl (Eq.trans (b := [x9]) rfl rfl) rfl rfl rfl hl.1 rfl (Nat.le_of_ble_eq_true rfl) dX6_casts_16 ⟨Nat.zero_le _, Nat.zero_le _⟩ (fun H locs hP hD hS => ?_)
      have hP : va_P D vwCl [(x9, .inr (10, [.int 1, .int (nI ch), .int era, .int why, .int det, .int cau, .int (zI sv), .int (zI rj), .ref v9, .ref b9, .ref s9, .ref k9, .ref p9, .ref t9, .ref n9, .int (nI tn), .int (nI he), .int (nI en), .int (nI ln), .int (zI iw), .int (zI dg)]))] H := hP
      have hD : va_D A [(x9, .inr (10, [.int 1, .int (nI ch), .int era, .int why, .int det, .int cau, .int (zI sv), .int (zI rj), .ref v9, .ref b9, .ref s9, .ref k9, .ref p9, .ref t9, .ref n9, .int (nI tn), .int (nI he), .int (nI en), .int (nI ln), .int (zI iw), .int (zI dg)]))] := hD
      exact ziret hend hx hb hr hlk hK hP hD hS dX6_casts_19 rfl rfl

abbrev rmX6_casts_f2 : Room := { frames := 2, cells := 0, slots := 0, locals := 42 }
set_option maxHeartbeats 4000000 in
set_option maxRecDepth 100000 in
theorem c_X6_casts_f2 {G : zG} (hg : zGN G) (l : Launch) (D : va_G) (cy : Nat → ClassId) (x9 : Nat) (th : Int32) (ch : Nat) (era : Int32) (why : Int32) (det : Int32) (cau : Int32) (sv : Bool) (rj : Bool) (v9 : Nat) (b9 : Nat) (s9 : Nat) (k9 : Nat) (p9 : Nat) (t9 : Nat) (n9 : Nat) (tn : Nat) (he : Nat) (en : Nat) (ln : Nat) (iw : Bool) (dg : Bool) (a : Nat) (b : Nat) (ha : a < 24) (hba : b < a) : zM G D vwCl (zT cy) l yX6_casts wsX6_casts rmX6_casts_f2 [.ref x9, .int (nI a), .int (nI b)] [(x9, .inr (10, [.int th, .int (nI ch), .int era, .int why, .int det, .int cau, .int (zI sv), .int (zI rj), .ref v9, .ref b9, .ref s9, .ref k9, .ref p9, .ref t9, .ref n9, .int (nI tn), .int (nI he), .int (nI en), .int (nI ln), .int (zI iw), .int (zI dg)]))] (some (.int 0)) [(x9, .inr (10, [.int 2, .int (nI ch), .int era, .int why, .int det, .int cau, .int (zI sv), .int (zI rj), .ref v9, .ref b9, .ref s9, .ref k9, .ref p9, .ref t9, .ref n9, .int (nI tn), .int (nI he), .int (nI en), .int (nI ln), .int (zI iw), .int (zI dg)]))] := by
  refine zM_of (cc := cX6_casts) (maxL := 4) (ret := (some .int)) (by decide) rfl (Nat.le_of_ble_eq_true rfl) ?_
  intro p e s m below meth c A Q hend hx hb hml hr hts hown hlk hG hK hP hD hA hS ls hl
  have hown : s.vm.findClass RX6 = some m.cls := hown
  have hl : lv_has ls 4 [(0, .ref x9), (1, .int (nI a)), (2, .int (nI b))] := hl
  refine lv_iload_n hx hb dX6_casts_0 rfl (lv_at hl 1 rfl) ?_
  refine zcS (As := [.int (nI a)]) (rest := []) [] hg.1 ⟨hx, hb, hml, hown, hts⟩ (c_X6_isNeedle hg l D cy (nI a)) (va_cwS 1 hts gX6_casts_X6_isNeedle rfl rfl rfl (by decide +kernel) ⟨Nat.le_of_ble_eq_true rfl, Nat.le_of_ble_eq_true rfl⟩) hG hK hP hD hS hA rfl rfl rfl  rfl hl.1 rfl (Nat.le_of_ble_eq_true rfl) dX6_casts_1 ⟨Nat.zero_le _, Nat.zero_le _⟩ (fun H locs hP hD hS => ?_)
  have hP : va_P D vwCl [(x9, .inr (10, [.int th, .int (nI ch), .int era, .int why, .int det, .int cau, .int (zI sv), .int (zI rj), .ref v9, .ref b9, .ref s9, .ref k9, .ref p9, .ref t9, .ref n9, .int (nI tn), .int (nI he), .int (nI en), .int (nI ln), .int (zI iw), .int (zI dg)]))] H := hP
  have hD : va_D A [(x9, .inr (10, [.int th, .int (nI ch), .int era, .int why, .int det, .int cau, .int (zI sv), .int (zI rj), .ref v9, .ref b9, .ref s9, .ref k9, .ref p9, .ref t9, .ref n9, .int (nI tn), .int (nI he), .int (nI en), .int (nI ln), .int (zI iw), .int (zI dg)]))] := hD
  refine lv_if_eq (tgt := 14) hx hb dX6_casts_4 (by decide) (fun c_1 => ?_) (fun c_1 => ?_)
  · replace c_1 := zI0 c_1
    exact absurd ((zic23 ha).symm.trans c_1) (by decide)
  · replace c_1 := zI1 c_1
    refine lv_iload_n hx hb dX6_casts_7 rfl (lv_at hl 2 rfl) ?_
    refine zcS (As := [.int (nI b)]) (rest := []) [] hg.1 ⟨hx, hb, hml, hown, hts⟩ (c_X6_isNeedle hg l D cy (nI b)) (va_cwS 1 hts gX6_casts_X6_isNeedle rfl rfl rfl (by decide +kernel) ⟨Nat.le_of_ble_eq_true rfl, Nat.le_of_ble_eq_true rfl⟩) hG hK hP hD hS hA rfl rfl rfl  rfl hl.1 rfl (Nat.le_of_ble_eq_true rfl) dX6_casts_8 ⟨Nat.zero_le _, Nat.zero_le _⟩ (fun H locs hP hD hS => ?_)
    have hP : va_P D vwCl [(x9, .inr (10, [.int th, .int (nI ch), .int era, .int why, .int det, .int cau, .int (zI sv), .int (zI rj), .ref v9, .ref b9, .ref s9, .ref k9, .ref p9, .ref t9, .ref n9, .int (nI tn), .int (nI he), .int (nI en), .int (nI ln), .int (zI iw), .int (zI dg)]))] H := hP
    have hD : va_D A [(x9, .inr (10, [.int th, .int (nI ch), .int era, .int why, .int det, .int cau, .int (zI sv), .int (zI rj), .ref v9, .ref b9, .ref s9, .ref k9, .ref p9, .ref t9, .ref n9, .int (nI tn), .int (nI he), .int (nI en), .int (nI ln), .int (zI iw), .int (zI dg)]))] := hD
    refine lv_if_ne (tgt := 20) hx hb dX6_casts_11 (by decide) (fun c_2 => ?_) (fun c_2 => ?_)
    · replace c_2 := zI1 c_2
      refine lv_iload_n hx hb dX6_casts_20 rfl (lv_at hl 1 rfl) ?_
      refine lv_iload_n hx hb dX6_casts_21 rfl (lv_at hl 2 rfl) ?_
      refine lv_icmp_le (tgt := 31) hx hb dX6_casts_22 (by decide) (fun c_3 => ?_) (fun c_3 => ?_)
      · exact absurd c_3 (nI_ge hba (by omega))
      · refine lv_aload_n hx hb dX6_casts_25 rfl (lv_at hl 0 rfl) ?_
        refine lv_iconst (v := 2) hx hb dX6_casts_26 (by decide) ?_
        refine zcV (As := [.int 2]) (rest := []) [0] 0 hg.1 ⟨hx, hb, hml, hown, hts⟩ (c_X6_fail hg l D cy x9 th ch era why det cau sv rj v9 b9 s9 k9 p9 t9 n9 tn he en ln iw dg 2) (cwV 1 hts gX6_casts_X6_fail rfl rfl rfl (by decide +kernel) ⟨Nat.le_of_ble_eq_true rfl, Nat.le_of_ble_eq_true rfl⟩) hG hK hP hD hS hA rfl rfl (Eq.trans (b := [x9]) rfl rfl) rfl rfl rfl hl.1 rfl (Nat.le_of_ble_eq_true rfl) dX6_casts_27 ⟨Nat.zero_le _, Nat.zero_le _⟩ (fun H locs hP hD hS => ?_)
        have hP : va_P D vwCl [(x9, .inr (10, [.int 2, .int (nI ch), .int era, .int why, .int det, .int cau, .int (zI sv), .int (zI rj), .ref v9, .ref b9, .ref s9, .ref k9, .ref p9, .ref t9, .ref n9, .int (nI tn), .int (nI he), .int (nI en), .int (nI ln), .int (zI iw), .int (zI dg)]))] H := hP
        have hD : va_D A [(x9, .inr (10, [.int 2, .int (nI ch), .int era, .int why, .int det, .int cau, .int (zI sv), .int (zI rj), .ref v9, .ref b9, .ref s9, .ref k9, .ref p9, .ref t9, .ref n9, .int (nI tn), .int (nI he), .int (nI en), .int (nI ln), .int (zI iw), .int (zI dg)]))] := hD
        exact ziret hend hx hb hr hlk hK hP hD hS dX6_casts_30 rfl rfl
    · replace c_2 := zI0 c_2
      exact absurd ((zic23 (k := b) (by omega)).symm.trans c_2) (by decide)

abbrev rmX6_finishes_rej : Room := { frames := 2, cells := 0, slots := 0, locals := 44 }
set_option maxHeartbeats 4000000 in
set_option maxRecDepth 100000 in
theorem c_X6_finishes_rej {G : zG} (hg : zGN G) (l : Launch) (D : va_G) (cy : Nat → ClassId) (x9 : Nat) (th : Int32) (ch : Nat) (era : Int32) (why : Int32) (det : Int32) (cau : Int32) (sv : Bool) (rj : Bool) (v9 : Nat) (b9 : Nat) (s9 : Nat) (k9 : Nat) (p9 : Nat) (t9 : Nat) (n9 : Nat) (tn : Nat) (he : Nat) (en : Nat) (ln : Nat) (iw : Bool) (dg : Bool) (v : Nat → Int32) (hn : zsum (zlo v) 24 = 0) (hsq : zbok 40 (v 0)) : zM G D vwCl (zT cy) l yX6_finishes wsX6_finishes rmX6_finishes_rej [.ref x9] [(x9, .inr (10, [.int th, .int (nI ch), .int era, .int why, .int det, .int cau, .int (zI sv), .int (zI rj), .ref v9, .ref b9, .ref s9, .ref k9, .ref p9, .ref t9, .ref n9, .int (nI tn), .int (nI he), .int (nI en), .int (nI ln), .int (zI iw), .int (zI dg)])), (v9, .inl (cy 0, 188, .inl v))] (some (.int 0)) [(x9, .inr (10, [.int 1, .int (nI ch), .int era, .int 3, .int (zbc 40 (v 0) 0), .int 0, .int (zI sv), .int (zI true), .ref v9, .ref b9, .ref s9, .ref k9, .ref p9, .ref t9, .ref n9, .int (nI tn), .int (nI he), .int (nI en), .int (nI ln), .int (zI iw), .int (zI dg)])), (v9, .inl (cy 0, 188, .inl v))] := by
  refine zM_of (cc := cX6_finishes) (maxL := 3) (ret := (some .int)) (by decide) rfl (Nat.le_of_ble_eq_true rfl) ?_
  intro p e s m below meth c A Q hend hx hb hml hr hts hown hlk hG hK hP hD hA hS ls hl
  have hown : s.vm.findClass RX6 = some m.cls := hown
  have in_RX6 : ∀ w ∈ u_ws RX6 TX6 21, w ∈ wsX6_finishes := by decide +kernel
  have hl : lv_has ls 3 [(0, .ref x9)] := hl
  refine lv_aload_n hx hb dX6_finishes_0 rfl (lv_at hl 0 rfl) ?_
  refine zcV (As := []) (rest := []) [0, 1] 0 hg.1 ⟨hx, hb, hml, hown, hts⟩ (c_X6_loops hg l D cy x9 th ch era why det cau sv rj v9 b9 s9 k9 p9 t9 n9 tn he en ln iw dg v) (cwV 0 hts gX6_finishes_X6_loops rfl rfl rfl (by decide +kernel) ⟨Nat.le_of_ble_eq_true rfl, Nat.le_of_ble_eq_true rfl⟩) hG hK hP hD hS hA rfl rfl rfl rfl rfl rfl hl.1 rfl (Nat.le_of_ble_eq_true rfl) dX6_finishes_1 ⟨Nat.zero_le _, Nat.zero_le _⟩ (fun H locs hP hD hS => ?_)
  have hP : va_P D vwCl [(x9, .inr (10, [.int th, .int (nI ch), .int era, .int why, .int det, .int cau, .int (zI sv), .int (zI rj), .ref v9, .ref b9, .ref s9, .ref k9, .ref p9, .ref t9, .ref n9, .int (nI tn), .int (nI he), .int (nI en), .int (nI ln), .int (zI iw), .int (zI dg)])), (v9, .inl (cy 0, 188, .inl v))] H := hP
  have hD : va_D A [(x9, .inr (10, [.int th, .int (nI ch), .int era, .int why, .int det, .int cau, .int (zI sv), .int (zI rj), .ref v9, .ref b9, .ref s9, .ref k9, .ref p9, .ref t9, .ref n9, .int (nI tn), .int (nI he), .int (nI en), .int (nI ln), .int (zI iw), .int (zI dg)])), (v9, .inl (cy 0, 188, .inl v))] := hD
  refine lv_istore_n (lv' := [(1, .int (zsum (zlo v) 24)), (0, .ref x9)]) hx hb dX6_finishes_4 rfl hl (by decide) rfl (fun ls hl => ?_)
  refine lv_iload_n hx hb dX6_finishes_5 rfl (lv_at hl 0 rfl) ?_
  refine lv_if_ne (tgt := 25) hx hb dX6_finishes_6 (by decide) (fun c_1 => ?_) (fun c_1 => ?_)
  · exact absurd hn c_1
  · refine lv_aload_n hx hb dX6_finishes_9 rfl (lv_at hl 1 rfl) ?_
    refine lv_iconst (v := 1) hx hb dX6_finishes_10 (by decide) ?_
    refine lv_iconst (v := 3) hx hb dX6_finishes_11 (by decide) ?_
    refine lv_aload_n hx hb dX6_finishes_12 rfl (lv_at hl 1 rfl) ?_
    refine va_get (D := D) (ci := 10) (v := .ref v9) (C := RX6) (T := TX6) (N := 21) hx hb hts in_RX6 hown hK hP 0 rfl rfl 8 (by decide) (hts _ (List.mem_of_getElem? (i := 1) rfl)) (fun _ h9 => h9) rfl dX6_finishes_13 ?_
    refine lv_iconst (v := 0) hx hb dX6_finishes_16 (by decide) ?_
    refine ziald 1 0 0 hx hb hK hP rfl rfl (by omega) (z_lt rfl) dX6_finishes_17 ?_
    refine zcS (As := [.int (v 0)]) (rest := [.int 3, .int 1, .ref x9]) [] hg.1 ⟨hx, hb, hml, hown, hts⟩ (c_X6_bits hg l D cy (v 0) (by first | assumption | omega)) (va_cwS 1 hts gX6_finishes_X6_bits rfl rfl rfl (by decide +kernel) ⟨Nat.le_of_ble_eq_true rfl, Nat.le_of_ble_eq_true rfl⟩) hG hK hP hD hS hA rfl rfl rfl  rfl hl.1 rfl (Nat.le_of_ble_eq_true rfl) dX6_finishes_18 ⟨Nat.zero_le _, Nat.zero_le _⟩ (fun H locs hP hD hS => ?_)
    have hP : va_P D vwCl [(x9, .inr (10, [.int th, .int (nI ch), .int era, .int why, .int det, .int cau, .int (zI sv), .int (zI rj), .ref v9, .ref b9, .ref s9, .ref k9, .ref p9, .ref t9, .ref n9, .int (nI tn), .int (nI he), .int (nI en), .int (nI ln), .int (zI iw), .int (zI dg)])), (v9, .inl (cy 0, 188, .inl v))] H := hP
    have hD : va_D A [(x9, .inr (10, [.int th, .int (nI ch), .int era, .int why, .int det, .int cau, .int (zI sv), .int (zI rj), .ref v9, .ref b9, .ref s9, .ref k9, .ref p9, .ref t9, .ref n9, .int (nI tn), .int (nI he), .int (nI en), .int (nI ln), .int (zI iw), .int (zI dg)])), (v9, .inl (cy 0, 188, .inl v))] := hD
    refine zcV (As := [.int 1, .int 3, .int (zbc 40 (v 0) 0)]) (rest := []) [0] 0 hg.1 ⟨hx, hb, hml, hown, hts⟩ (c_X6_rejects hg l D cy x9 th ch era why det cau sv rj v9 b9 s9 k9 p9 t9 n9 tn he en ln iw dg 1 3 (zbc 40 (v 0) 0)) (cwV 3 hts gX6_finishes_X6_rejects rfl rfl rfl (by decide +kernel) ⟨Nat.le_of_ble_eq_true rfl, Nat.le_of_ble_eq_true rfl⟩) hG hK hP hD hS hA rfl rfl (Eq.trans (b := [x9]) rfl rfl) rfl rfl rfl hl.1 rfl (Nat.le_of_ble_eq_true rfl) dX6_finishes_21 ⟨Nat.zero_le _, Nat.zero_le _⟩ (fun H locs hP hD hS => ?_)
    have hP : va_P D vwCl [(x9, .inr (10, [.int 1, .int (nI ch), .int era, .int 3, .int (zbc 40 (v 0) 0), .int 0, .int (zI sv), .int (zI true), .ref v9, .ref b9, .ref s9, .ref k9, .ref p9, .ref t9, .ref n9, .int (nI tn), .int (nI he), .int (nI en), .int (nI ln), .int (zI iw), .int (zI dg)])), (v9, .inl (cy 0, 188, .inl v))] H := hP
    have hD : va_D A [(x9, .inr (10, [.int 1, .int (nI ch), .int era, .int 3, .int (zbc 40 (v 0) 0), .int 0, .int (zI sv), .int (zI true), .ref v9, .ref b9, .ref s9, .ref k9, .ref p9, .ref t9, .ref n9, .int (nI tn), .int (nI he), .int (nI en), .int (nI ln), .int (zI iw), .int (zI dg)])), (v9, .inl (cy 0, 188, .inl v))] := hD
    exact ziret hend hx hb hr hlk hK hP hD hS dX6_finishes_24 rfl rfl

abbrev rmX6_finishes_ok : Room := { frames := 1, cells := 0, slots := 0, locals := 23 }
set_option maxHeartbeats 4000000 in
set_option maxRecDepth 100000 in
theorem c_X6_finishes_ok {G : zG} (hg : zGN G) (l : Launch) (D : va_G) (cy : Nat → ClassId) (x9 : Nat) (th : Int32) (ch : Nat) (era : Int32) (why : Int32) (det : Int32) (cau : Int32) (sv : Bool) (rj : Bool) (v9 : Nat) (b9 : Nat) (s9 : Nat) (k9 : Nat) (p9 : Nat) (t9 : Nat) (n9 : Nat) (tn : Nat) (he : Nat) (en : Nat) (ln : Nat) (iw : Bool) (dg : Bool) (v : Nat → Int32) (hn : ¬ zsum (zlo v) 24 = 0) : zM G D vwCl (zT cy) l yX6_finishes wsX6_finishes rmX6_finishes_ok [.ref x9] [(x9, .inr (10, [.int th, .int (nI ch), .int era, .int why, .int det, .int cau, .int (zI sv), .int (zI rj), .ref v9, .ref b9, .ref s9, .ref k9, .ref p9, .ref t9, .ref n9, .int (nI tn), .int (nI he), .int (nI en), .int (nI ln), .int (zI iw), .int (zI dg)])), (v9, .inl (cy 0, 188, .inl v))] (some (.int (zsum (zlo v) 24))) [(x9, .inr (10, [.int th, .int (nI ch), .int era, .int why, .int det, .int cau, .int (zI sv), .int (zI rj), .ref v9, .ref b9, .ref s9, .ref k9, .ref p9, .ref t9, .ref n9, .int (nI tn), .int (nI he), .int (nI en), .int (nI ln), .int (zI iw), .int (zI dg)])), (v9, .inl (cy 0, 188, .inl (zfin v)))] := by
  refine zM_of (cc := cX6_finishes) (maxL := 3) (ret := (some .int)) (by decide) rfl (Nat.le_of_ble_eq_true rfl) ?_
  intro p e s m below meth c A Q hend hx hb hml hr hts hown hlk hG hK hP hD hA hS ls hl
  have hown : s.vm.findClass RX6 = some m.cls := hown
  have in_RX6 : ∀ w ∈ u_ws RX6 TX6 21, w ∈ wsX6_finishes := by decide +kernel
  have hl : lv_has ls 3 [(0, .ref x9)] := hl
  refine lv_aload_n hx hb dX6_finishes_0 rfl (lv_at hl 0 rfl) ?_
  refine zcV (As := []) (rest := []) [0, 1] 0 hg.1 ⟨hx, hb, hml, hown, hts⟩ (c_X6_loops hg l D cy x9 th ch era why det cau sv rj v9 b9 s9 k9 p9 t9 n9 tn he en ln iw dg v) (cwV 0 hts gX6_finishes_X6_loops rfl rfl rfl (by decide +kernel) ⟨Nat.le_of_ble_eq_true rfl, Nat.le_of_ble_eq_true rfl⟩) hG hK hP hD hS hA rfl rfl rfl rfl rfl rfl hl.1 rfl (Nat.le_of_ble_eq_true rfl) dX6_finishes_1 ⟨Nat.zero_le _, Nat.zero_le _⟩ (fun H locs hP hD hS => ?_)
  have hP : va_P D vwCl [(x9, .inr (10, [.int th, .int (nI ch), .int era, .int why, .int det, .int cau, .int (zI sv), .int (zI rj), .ref v9, .ref b9, .ref s9, .ref k9, .ref p9, .ref t9, .ref n9, .int (nI tn), .int (nI he), .int (nI en), .int (nI ln), .int (zI iw), .int (zI dg)])), (v9, .inl (cy 0, 188, .inl v))] H := hP
  have hD : va_D A [(x9, .inr (10, [.int th, .int (nI ch), .int era, .int why, .int det, .int cau, .int (zI sv), .int (zI rj), .ref v9, .ref b9, .ref s9, .ref k9, .ref p9, .ref t9, .ref n9, .int (nI tn), .int (nI he), .int (nI en), .int (nI ln), .int (zI iw), .int (zI dg)])), (v9, .inl (cy 0, 188, .inl v))] := hD
  refine lv_istore_n (lv' := [(1, .int (zsum (zlo v) 24)), (0, .ref x9)]) hx hb dX6_finishes_4 rfl hl (by decide) rfl (fun ls hl => ?_)
  refine lv_iload_n hx hb dX6_finishes_5 rfl (lv_at hl 0 rfl) ?_
  refine lv_if_ne (tgt := 25) hx hb dX6_finishes_6 (by decide) (fun c_1 => ?_) (fun c_1 => ?_)
  · refine lv_iconst (v := 0) hx hb dX6_finishes_25 (by decide) ?_
    refine lv_istore_n (lv' := [(2, .int 0), (1, .int (zsum (zlo v) 24)), (0, .ref x9)]) hx hb dX6_finishes_26 rfl hl (by decide) rfl (fun ls hl => ?_)
    have L27 : ∀ (F : Nat) (k : Nat) (x27_0 : Nat → Int32), k ≤ 24 → 24 - k < F → x27_0 = zp0 v k → ∀ (H : Heap) (locs : List Loc), va_P D vwCl [(x9, .inr (10, [.int th, .int (nI ch), .int era, .int why, .int det, .int cau, .int (zI sv), .int (zI rj), .ref v9, .ref b9, .ref s9, .ref k9, .ref p9, .ref t9, .ref n9, .int (nI tn), .int (nI he), .int (nI en), .int (nI ln), .int (zI iw), .int (zI dg)])), (v9, .inl (cy 0, 188, .inl x27_0))] H → va_D A [(x9, .inr (10, [.int th, .int (nI ch), .int era, .int why, .int det, .int cau, .int (zI sv), .int (zI rj), .ref v9, .ref b9, .ref s9, .ref k9, .ref p9, .ref t9, .ref n9, .int (nI tn), .int (nI he), .int (nI en), .int (nI ln), .int (zI iw), .int (zI dg)])), (v9, .inl (cy 0, 188, .inl x27_0))] → va_S A s.heap H locs → ∀ ls : Array Slot, lv_has ls 3 [(0, .ref x9), (1, .int (zsum (zlo v) 24)), (2, .int (nI k))] → W p l e rmX6_finishes_ok s m ([.ref x9] : List Value).toArray below meth c H locs 0 0 Q (F0 m 27 ls []) := by
      intro F
      induction F with
      | zero =>
        intro k x27_0 hk hF ex27_0 H locs hP hD hS ls hl
        exact absurd hF (Nat.not_lt_zero _)
      | succ F ih27 =>
        intro k x27_0 hk hF ex27_0 H locs hP hD hS ls hl
        subst ex27_0
        refine lv_iload_n hx hb dX6_finishes_27 rfl (lv_at hl 2 rfl) ?_
        refine lv_bipush (v := 24) hx hb dX6_finishes_28 (by decide) ?_
        refine lv_icmp_ge (tgt := 46) hx hb dX6_finishes_30 (by decide) (fun c_2 => ?_) (fun c_2 => ?_)
        · have hk2 : 24 ≤ k := (nI_leI (by omega) (by omega)).mp c_2
          obtain rfl : 24 = k := by omega
          refine lv_bipush (v := 68) hx hb dX6_finishes_46 (by decide) ?_
          refine lv_istore_n (lv' := [(2, .int 68), (0, .ref x9), (1, .int (zsum (zlo v) 24))]) hx hb dX6_finishes_48 rfl hl (by decide) rfl (fun ls hl => ?_)
          have L49 : ∀ (F : Nat) (k : Nat) (j : Nat) (x49_0 : Nat → Int32), k ≤ 188 → k = 68 + j → 188 - k < F → x49_0 = zzr (zp0 v 24) j → ∀ (H : Heap) (locs : List Loc), va_P D vwCl [(x9, .inr (10, [.int th, .int (nI ch), .int era, .int why, .int det, .int cau, .int (zI sv), .int (zI rj), .ref v9, .ref b9, .ref s9, .ref k9, .ref p9, .ref t9, .ref n9, .int (nI tn), .int (nI he), .int (nI en), .int (nI ln), .int (zI iw), .int (zI dg)])), (v9, .inl (cy 0, 188, .inl x49_0))] H → va_D A [(x9, .inr (10, [.int th, .int (nI ch), .int era, .int why, .int det, .int cau, .int (zI sv), .int (zI rj), .ref v9, .ref b9, .ref s9, .ref k9, .ref p9, .ref t9, .ref n9, .int (nI tn), .int (nI he), .int (nI en), .int (nI ln), .int (zI iw), .int (zI dg)])), (v9, .inl (cy 0, 188, .inl x49_0))] → va_S A s.heap H locs → ∀ ls : Array Slot, lv_has ls 3 [(0, .ref x9), (1, .int (zsum (zlo v) 24)), (2, .int (nI k))] → W p l e rmX6_finishes_ok s m ([.ref x9] : List Value).toArray below meth c H locs 0 0 Q (F0 m 49 ls []) := by
            intro F
            induction F with
            | zero =>
              intro k j x49_0 hk hj hF ex49_0 H locs hP hD hS ls hl
              exact absurd hF (Nat.not_lt_zero _)
            | succ F ih49 =>
              intro k j x49_0 hk hj hF ex49_0 H locs hP hD hS ls hl
              subst ex49_0
              refine lv_iload_n hx hb dX6_finishes_49 rfl (lv_at hl 2 rfl) ?_
              refine lv_sipush (v := 188) hx hb dX6_finishes_50 (by decide) ?_
              refine lv_icmp_ge (tgt := 69) hx hb dX6_finishes_53 (by decide) (fun c_3 => ?_) (fun c_3 => ?_)
              · have hk2 : 188 ≤ k := (nI_leI (by omega) (by omega)).mp c_3
                obtain rfl : 120 = j := by omega
                refine lv_aload_n hx hb dX6_finishes_69 rfl (lv_at hl 0 rfl) ?_
                refine va_get (D := D) (ci := 10) (v := .ref v9) (C := RX6) (T := TX6) (N := 21) hx hb hts in_RX6 hown hK hP 0 rfl rfl 8 (by decide) (hts _ (List.mem_of_getElem? (i := 1) rfl)) (fun _ h9 => h9) rfl dX6_finishes_70 ?_
                refine lv_iconst (v := 0) hx hb dX6_finishes_73 (by decide) ?_
                refine lv_iconst (v := 0) hx hb dX6_finishes_74 (by decide) ?_
                refine ziast 1 0 0 hx hb hK hP hD hS rfl rfl (by omega) (z_lt rfl) dX6_finishes_75 (fun H locs hP hD hS => ?_)
                have hP : va_P D vwCl [(x9, .inr (10, [.int th, .int (nI ch), .int era, .int why, .int det, .int cau, .int (zI sv), .int (zI rj), .ref v9, .ref b9, .ref s9, .ref k9, .ref p9, .ref t9, .ref n9, .int (nI tn), .int (nI he), .int (nI en), .int (nI ln), .int (zI iw), .int (zI dg)])), (v9, .inl (cy 0, 188, .inl (upd (zzr (zp0 v 24) 120) 0 0)))] H := hP
                have hD : va_D A [(x9, .inr (10, [.int th, .int (nI ch), .int era, .int why, .int det, .int cau, .int (zI sv), .int (zI rj), .ref v9, .ref b9, .ref s9, .ref k9, .ref p9, .ref t9, .ref n9, .int (nI tn), .int (nI he), .int (nI en), .int (nI ln), .int (zI iw), .int (zI dg)])), (v9, .inl (cy 0, 188, .inl (upd (zzr (zp0 v 24) 120) 0 0)))] := hD
                refine lv_aload_n hx hb dX6_finishes_76 rfl (lv_at hl 0 rfl) ?_
                refine va_get (D := D) (ci := 10) (v := .ref v9) (C := RX6) (T := TX6) (N := 21) hx hb hts in_RX6 hown hK hP 0 rfl rfl 8 (by decide) (hts _ (List.mem_of_getElem? (i := 1) rfl)) (fun _ h9 => h9) rfl dX6_finishes_77 ?_
                refine lv_iconst (v := 1) hx hb dX6_finishes_80 (by decide) ?_
                refine lv_iconst (v := 0) hx hb dX6_finishes_81 (by decide) ?_
                refine ziast 1 0 1 hx hb hK hP hD hS rfl rfl (by omega) (z_lt rfl) dX6_finishes_82 (fun H locs hP hD hS => ?_)
                have hP : va_P D vwCl [(x9, .inr (10, [.int th, .int (nI ch), .int era, .int why, .int det, .int cau, .int (zI sv), .int (zI rj), .ref v9, .ref b9, .ref s9, .ref k9, .ref p9, .ref t9, .ref n9, .int (nI tn), .int (nI he), .int (nI en), .int (nI ln), .int (zI iw), .int (zI dg)])), (v9, .inl (cy 0, 188, .inl (upd (upd (zzr (zp0 v 24) 120) 0 0) 1 0)))] H := hP
                have hD : va_D A [(x9, .inr (10, [.int th, .int (nI ch), .int era, .int why, .int det, .int cau, .int (zI sv), .int (zI rj), .ref v9, .ref b9, .ref s9, .ref k9, .ref p9, .ref t9, .ref n9, .int (nI tn), .int (nI he), .int (nI en), .int (nI ln), .int (zI iw), .int (zI dg)])), (v9, .inl (cy 0, 188, .inl (upd (upd (zzr (zp0 v 24) 120) 0 0) 1 0)))] := hD
                refine lv_aload_n hx hb dX6_finishes_83 rfl (lv_at hl 0 rfl) ?_
                refine va_get (D := D) (ci := 10) (v := .ref v9) (C := RX6) (T := TX6) (N := 21) hx hb hts in_RX6 hown hK hP 0 rfl rfl 8 (by decide) (hts _ (List.mem_of_getElem? (i := 1) rfl)) (fun _ h9 => h9) rfl dX6_finishes_84 ?_
                refine lv_iconst (v := 5) hx hb dX6_finishes_87 (by decide) ?_
                refine lv_iconst (v := 0) hx hb dX6_finishes_88 (by decide) ?_
                refine ziast 1 0 5 hx hb hK hP hD hS rfl rfl (by omega) (z_lt rfl) dX6_finishes_89 (fun H locs hP hD hS => ?_)
                have hP : va_P D vwCl [(x9, .inr (10, [.int th, .int (nI ch), .int era, .int why, .int det, .int cau, .int (zI sv), .int (zI rj), .ref v9, .ref b9, .ref s9, .ref k9, .ref p9, .ref t9, .ref n9, .int (nI tn), .int (nI he), .int (nI en), .int (nI ln), .int (zI iw), .int (zI dg)])), (v9, .inl (cy 0, 188, .inl (upd (upd (upd (zzr (zp0 v 24) 120) 0 0) 1 0) 5 0)))] H := hP
                have hD : va_D A [(x9, .inr (10, [.int th, .int (nI ch), .int era, .int why, .int det, .int cau, .int (zI sv), .int (zI rj), .ref v9, .ref b9, .ref s9, .ref k9, .ref p9, .ref t9, .ref n9, .int (nI tn), .int (nI he), .int (nI en), .int (nI ln), .int (zI iw), .int (zI dg)])), (v9, .inl (cy 0, 188, .inl (upd (upd (upd (zzr (zp0 v 24) 120) 0 0) 1 0) 5 0)))] := hD
                refine lv_aload_n hx hb dX6_finishes_90 rfl (lv_at hl 0 rfl) ?_
                refine va_get (D := D) (ci := 10) (v := .ref v9) (C := RX6) (T := TX6) (N := 21) hx hb hts in_RX6 hown hK hP 0 rfl rfl 8 (by decide) (hts _ (List.mem_of_getElem? (i := 1) rfl)) (fun _ h9 => h9) rfl dX6_finishes_91 ?_
                refine lv_bipush (v := 6) hx hb dX6_finishes_94 (by decide) ?_
                refine lv_dup2_11 hx hb dX6_finishes_96 rfl rfl ?_
                refine ziald 1 0 6 hx hb hK hP rfl rfl (by omega) (z_lt rfl) dX6_finishes_97 ?_
                refine lv_iconst (v := 1) hx hb dX6_finishes_98 (by decide) ?_
                refine lv_iadd hx hb dX6_finishes_99 ?_
                refine ziast 1 0 6 hx hb hK hP hD hS rfl rfl (by omega) (z_lt rfl) dX6_finishes_100 (fun H locs hP hD hS => ?_)
                have hP : va_P D vwCl [(x9, .inr (10, [.int th, .int (nI ch), .int era, .int why, .int det, .int cau, .int (zI sv), .int (zI rj), .ref v9, .ref b9, .ref s9, .ref k9, .ref p9, .ref t9, .ref n9, .int (nI tn), .int (nI he), .int (nI en), .int (nI ln), .int (zI iw), .int (zI dg)])), (v9, .inl (cy 0, 188, .inl (upd (upd (upd (upd (zzr (zp0 v 24) 120) 0 0) 1 0) 5 0) 6 (((upd (upd (upd (zzr (zp0 v 24) 120) 0 0) 1 0) 5 0) 6) + 1))))] H := hP
                have hD : va_D A [(x9, .inr (10, [.int th, .int (nI ch), .int era, .int why, .int det, .int cau, .int (zI sv), .int (zI rj), .ref v9, .ref b9, .ref s9, .ref k9, .ref p9, .ref t9, .ref n9, .int (nI tn), .int (nI he), .int (nI en), .int (nI ln), .int (zI iw), .int (zI dg)])), (v9, .inl (cy 0, 188, .inl (upd (upd (upd (upd (zzr (zp0 v 24) 120) 0 0) 1 0) 5 0) 6 (((upd (upd (upd (zzr (zp0 v 24) 120) 0 0) 1 0) 5 0) 6) + 1))))] := hD
                refine lv_iload_n hx hb dX6_finishes_101 rfl (lv_at hl 1 rfl) ?_
                exact ziret hend hx hb hr hlk hK hP hD hS dX6_finishes_102 rfl (by rfl)
              · have hk2 : k < 188 := Nat.lt_of_not_le (fun z => c_3 (nI_le z (by omega)))
                refine lv_aload_n hx hb dX6_finishes_56 rfl (lv_at hl 0 rfl) ?_
                refine va_get (D := D) (ci := 10) (v := .ref v9) (C := RX6) (T := TX6) (N := 21) hx hb hts in_RX6 hown hK hP 0 rfl rfl 8 (by decide) (hts _ (List.mem_of_getElem? (i := 1) rfl)) (fun _ h9 => h9) rfl dX6_finishes_57 ?_
                refine lv_iload_n hx hb dX6_finishes_60 rfl (lv_at hl 2 rfl) ?_
                refine lv_iconst (v := 0) hx hb dX6_finishes_61 (by decide) ?_
                refine ziast 1 0 k hx hb hK hP hD hS rfl rfl (by omega) (z_lt rfl) dX6_finishes_62 (fun H locs hP hD hS => ?_)
                have hP : va_P D vwCl [(x9, .inr (10, [.int th, .int (nI ch), .int era, .int why, .int det, .int cau, .int (zI sv), .int (zI rj), .ref v9, .ref b9, .ref s9, .ref k9, .ref p9, .ref t9, .ref n9, .int (nI tn), .int (nI he), .int (nI en), .int (nI ln), .int (zI iw), .int (zI dg)])), (v9, .inl (cy 0, 188, .inl (upd (zzr (zp0 v 24) j) k 0)))] H := hP
                have hD : va_D A [(x9, .inr (10, [.int th, .int (nI ch), .int era, .int why, .int det, .int cau, .int (zI sv), .int (zI rj), .ref v9, .ref b9, .ref s9, .ref k9, .ref p9, .ref t9, .ref n9, .int (nI tn), .int (nI he), .int (nI en), .int (nI ln), .int (zI iw), .int (zI dg)])), (v9, .inl (cy 0, 188, .inl (upd (zzr (zp0 v 24) j) k 0)))] := hD
                refine lv_iinc (v := nI (k + 1)) (lv' := [(2, .int (nI (k + 1))), (0, .ref x9), (1, .int (zsum (zlo v) 24))]) hx hb dX6_finishes_63 hl (k := 2) rfl (by rw [show Int32.ofInt 1 = nI 1 from rfl, nI_add]) (by decide) rfl (fun ls hl => ?_)
                refine lv_goto (tgt := 49) hx hb dX6_finishes_66 (by decide) ?_
                exact ih49 (k + 1) (j + 1) (upd (zzr (zp0 v 24) j) k 0) (by omega) (by omega) (by omega) (by rw [hj]; exact zzr_s _ j) H locs hP hD hS ls (lv_sub hl [1, 2, 0] rfl)
          exact L49 (188 - 68 + 1) 68 0 (zp0 v 24) (by omega) (by omega) (Nat.lt_succ_self _) (zzr_0 _).symm H locs hP hD hS ls (lv_sub hl [1, 2, 0] rfl)
        · have hk2 : k < 24 := Nat.lt_of_not_le (fun z => c_2 (nI_le z (by omega)))
          refine lv_aload_n hx hb dX6_finishes_33 rfl (lv_at hl 0 rfl) ?_
          refine lv_iload_n hx hb dX6_finishes_34 rfl (lv_at hl 2 rfl) ?_
          refine lv_iconst (v := 0) hx hb dX6_finishes_35 (by decide) ?_
          refine lv_iconst (v := 0) hx hb dX6_finishes_36 (by decide) ?_
          refine zcV (As := [.int (nI k), .int 0, .int 0]) (rest := []) [0, 1] 0 hg.1 ⟨hx, hb, hml, hown, hts⟩ (c_X6_puts hg l D cy x9 th ch era why det cau sv rj v9 b9 s9 k9 p9 t9 n9 tn he en ln iw dg (zp0 v k) k 0 0 (by first | assumption | omega)) (cwV 3 hts gX6_finishes_X6_puts rfl rfl rfl (by decide +kernel) ⟨Nat.le_of_ble_eq_true rfl, Nat.le_of_ble_eq_true rfl⟩) hG hK hP hD hS hA rfl rfl (Eq.trans (b := [x9, v9]) rfl rfl) rfl rfl rfl hl.1 rfl (Nat.le_of_ble_eq_true rfl) dX6_finishes_37 ⟨Nat.zero_le _, Nat.zero_le _⟩ (fun H locs hP hD hS => ?_)
          have hP : va_P D vwCl [(x9, .inr (10, [.int th, .int (nI ch), .int era, .int why, .int det, .int cau, .int (zI sv), .int (zI rj), .ref v9, .ref b9, .ref s9, .ref k9, .ref p9, .ref t9, .ref n9, .int (nI tn), .int (nI he), .int (nI en), .int (nI ln), .int (zI iw), .int (zI dg)])), (v9, .inl (cy 0, 188, .inl (zpt (zp0 v k) k 0 0)))] H := hP
          have hD : va_D A [(x9, .inr (10, [.int th, .int (nI ch), .int era, .int why, .int det, .int cau, .int (zI sv), .int (zI rj), .ref v9, .ref b9, .ref s9, .ref k9, .ref p9, .ref t9, .ref n9, .int (nI tn), .int (nI he), .int (nI en), .int (nI ln), .int (zI iw), .int (zI dg)])), (v9, .inl (cy 0, 188, .inl (zpt (zp0 v k) k 0 0)))] := hD
          refine lv_iinc (v := nI (k + 1)) (lv' := [(2, .int (nI (k + 1))), (0, .ref x9), (1, .int (zsum (zlo v) 24))]) hx hb dX6_finishes_40 hl (k := 2) rfl (by rw [show Int32.ofInt 1 = nI 1 from rfl, nI_add]) (by decide) rfl (fun ls hl => ?_)
          refine lv_goto (tgt := 27) hx hb dX6_finishes_43 (by decide) ?_
          exact ih27 (k + 1) (zpt (zp0 v k) k 0 0) (by omega) (by omega) (by rfl) H locs hP hD hS ls (lv_sub hl [1, 2, 0] rfl)
    exact L27 (24 - 0 + 1) 0 v (by omega) (Nat.lt_succ_self _) (by rfl) H locs hP hD hS ls (lv_sub hl [2, 1, 0] rfl)
  · exact absurd c_1 hn

abbrev rmX6_holds_ok : Room := { frames := 2, cells := 0, slots := 0, locals := 42 }
set_option maxHeartbeats 4000000 in
set_option maxRecDepth 100000 in
theorem c_X6_holds_ok {G : zG} (hg : zGN G) (l : Launch) (D : va_G) (cy : Nat → ClassId) (x9 : Nat) (th : Int32) (ch : Nat) (era : Int32) (why : Int32) (det : Int32) (cau : Int32) (sv : Bool) (rj : Bool) (v9 : Nat) (b9 : Nat) (s9 : Nat) (k9 : Nat) (p9 : Nat) (t9 : Nat) (n9 : Nat) (tn : Nat) (he : Nat) (en : Nat) (ln : Nat) (iw : Bool) (dg : Bool) (v : Nat → Int32) (a : Nat) (ha : a < 24) (hr0 : zrH (v 0) (v 1) a = 0) (hsq : zbok 40 (v 1 ||| (1 <<< (nI a &&& 31)))) : zM G D vwCl (zT cy) l yX6_holds wsX6_holds rmX6_holds_ok [.ref x9, .int (nI a)] [(x9, .inr (10, [.int th, .int (nI ch), .int era, .int why, .int det, .int cau, .int (zI sv), .int (zI rj), .ref v9, .ref b9, .ref s9, .ref k9, .ref p9, .ref t9, .ref n9, .int (nI tn), .int (nI he), .int (nI en), .int (nI ln), .int (zI iw), .int (zI dg)])), (v9, .inl (cy 0, 188, .inl v))] (some (.int (zbc 40 (v 1 ||| (1 <<< (nI a &&& 31))) 0))) [(x9, .inr (10, [.int th, .int (nI ch), .int era, .int why, .int det, .int cau, .int (zI sv), .int (zI rj), .ref v9, .ref b9, .ref s9, .ref k9, .ref p9, .ref t9, .ref n9, .int (nI tn), .int (nI he), .int (nI en), .int (nI ln), .int (zI iw), .int (zI dg)])), (v9, .inl (cy 0, 188, .inl (upd v 1 (v 1 ||| (1 <<< (nI a &&& 31))))))] := by
  refine zM_of (cc := cX6_holds) (maxL := 2) (ret := (some .int)) (by decide) rfl (Nat.le_of_ble_eq_true rfl) ?_
  intro p e s m below meth c A Q hend hx hb hml hr hts hown hlk hG hK hP hD hA hS ls hl
  have hown : s.vm.findClass RX6 = some m.cls := hown
  have in_RX6 : ∀ w ∈ u_ws RX6 TX6 21, w ∈ wsX6_holds := by decide +kernel
  have hl : lv_has ls 2 [(0, .ref x9), (1, .int (nI a))] := hl
  refine lv_iload_n hx hb dX6_holds_0 rfl (lv_at hl 1 rfl) ?_
  refine zcS (As := [.int (nI a)]) (rest := []) [] hg.1 ⟨hx, hb, hml, hown, hts⟩ (c_X6_isNeedle hg l D cy (nI a)) (va_cwS 1 hts gX6_holds_X6_isNeedle rfl rfl rfl (by decide +kernel) ⟨Nat.le_of_ble_eq_true rfl, Nat.le_of_ble_eq_true rfl⟩) hG hK hP hD hS hA rfl rfl rfl  rfl hl.1 rfl (Nat.le_of_ble_eq_true rfl) dX6_holds_1 ⟨Nat.zero_le _, Nat.zero_le _⟩ (fun H locs hP hD hS => ?_)
  have hP : va_P D vwCl [(x9, .inr (10, [.int th, .int (nI ch), .int era, .int why, .int det, .int cau, .int (zI sv), .int (zI rj), .ref v9, .ref b9, .ref s9, .ref k9, .ref p9, .ref t9, .ref n9, .int (nI tn), .int (nI he), .int (nI en), .int (nI ln), .int (zI iw), .int (zI dg)])), (v9, .inl (cy 0, 188, .inl v))] H := hP
  have hD : va_D A [(x9, .inr (10, [.int th, .int (nI ch), .int era, .int why, .int det, .int cau, .int (zI sv), .int (zI rj), .ref v9, .ref b9, .ref s9, .ref k9, .ref p9, .ref t9, .ref n9, .int (nI tn), .int (nI he), .int (nI en), .int (nI ln), .int (zI iw), .int (zI dg)])), (v9, .inl (cy 0, 188, .inl v))] := hD
  refine lv_if_ne (tgt := 13) hx hb dX6_holds_4 (by decide) (fun c_1 => ?_) (fun c_1 => ?_)
  · replace c_1 := zI1 c_1
    refine lv_aload_n hx hb dX6_holds_13 rfl (lv_at hl 0 rfl) ?_
    refine lv_iload_n hx hb dX6_holds_14 rfl (lv_at hl 1 rfl) ?_
    refine zcV (As := [.int (nI a)]) (rest := []) [0, 1] 0 hg.1 ⟨hx, hb, hml, hown, hts⟩ (c_X6_isOn hg l D cy x9 th ch era why det cau sv rj v9 b9 s9 k9 p9 t9 n9 tn he en ln iw dg v (nI a)) (cwV 1 hts gX6_holds_X6_isOn rfl rfl rfl (by decide +kernel) ⟨Nat.le_of_ble_eq_true rfl, Nat.le_of_ble_eq_true rfl⟩) hG hK hP hD hS hA rfl rfl rfl rfl rfl rfl hl.1 rfl (Nat.le_of_ble_eq_true rfl) dX6_holds_15 ⟨Nat.zero_le _, Nat.zero_le _⟩ (fun H locs hP hD hS => ?_)
    have hP : va_P D vwCl [(x9, .inr (10, [.int th, .int (nI ch), .int era, .int why, .int det, .int cau, .int (zI sv), .int (zI rj), .ref v9, .ref b9, .ref s9, .ref k9, .ref p9, .ref t9, .ref n9, .int (nI tn), .int (nI he), .int (nI en), .int (nI ln), .int (zI iw), .int (zI dg)])), (v9, .inl (cy 0, 188, .inl v))] H := hP
    have hD : va_D A [(x9, .inr (10, [.int th, .int (nI ch), .int era, .int why, .int det, .int cau, .int (zI sv), .int (zI rj), .ref v9, .ref b9, .ref s9, .ref k9, .ref p9, .ref t9, .ref n9, .int (nI tn), .int (nI he), .int (nI en), .int (nI ln), .int (zI iw), .int (zI dg)])), (v9, .inl (cy 0, 188, .inl v))] := hD
    refine lv_if_ne (tgt := 29) hx hb dX6_holds_18 (by decide) (fun c_2 => ?_) (fun c_2 => ?_)
    · replace c_2 := zI1 c_2
      refine lv_aload_n hx hb dX6_holds_29 rfl (lv_at hl 0 rfl) ?_
      refine lv_iload_n hx hb dX6_holds_30 rfl (lv_at hl 1 rfl) ?_
      refine zcV (As := [.int (nI a)]) (rest := []) [0, 1] 0 hg.1 ⟨hx, hb, hml, hown, hts⟩ (c_X6_isHeld hg l D cy x9 th ch era why det cau sv rj v9 b9 s9 k9 p9 t9 n9 tn he en ln iw dg v (nI a)) (cwV 1 hts gX6_holds_X6_isHeld rfl rfl rfl (by decide +kernel) ⟨Nat.le_of_ble_eq_true rfl, Nat.le_of_ble_eq_true rfl⟩) hG hK hP hD hS hA rfl rfl rfl rfl rfl rfl hl.1 rfl (Nat.le_of_ble_eq_true rfl) dX6_holds_31 ⟨Nat.zero_le _, Nat.zero_le _⟩ (fun H locs hP hD hS => ?_)
      have hP : va_P D vwCl [(x9, .inr (10, [.int th, .int (nI ch), .int era, .int why, .int det, .int cau, .int (zI sv), .int (zI rj), .ref v9, .ref b9, .ref s9, .ref k9, .ref p9, .ref t9, .ref n9, .int (nI tn), .int (nI he), .int (nI en), .int (nI ln), .int (zI iw), .int (zI dg)])), (v9, .inl (cy 0, 188, .inl v))] H := hP
      have hD : va_D A [(x9, .inr (10, [.int th, .int (nI ch), .int era, .int why, .int det, .int cau, .int (zI sv), .int (zI rj), .ref v9, .ref b9, .ref s9, .ref k9, .ref p9, .ref t9, .ref n9, .int (nI tn), .int (nI he), .int (nI en), .int (nI ln), .int (zI iw), .int (zI dg)])), (v9, .inl (cy 0, 188, .inl v))] := hD
      refine lv_if_eq (tgt := 45) hx hb dX6_holds_34 (by decide) (fun c_3 => ?_) (fun c_3 => ?_)
      · replace c_3 := zI0 c_3
        refine lv_aload_n hx hb dX6_holds_45 rfl (lv_at hl 0 rfl) ?_
        refine va_get (D := D) (ci := 10) (v := .ref v9) (C := RX6) (T := TX6) (N := 21) hx hb hts in_RX6 hown hK hP 0 rfl rfl 8 (by decide) (hts _ (List.mem_of_getElem? (i := 1) rfl)) (fun _ h9 => h9) rfl dX6_holds_46 ?_
        refine lv_iconst (v := 1) hx hb dX6_holds_49 (by decide) ?_
        refine lv_dup2_11 hx hb dX6_holds_50 rfl rfl ?_
        refine ziald 1 0 1 hx hb hK hP rfl rfl (by omega) (z_lt rfl) dX6_holds_51 ?_
        refine lv_iconst (v := 1) hx hb dX6_holds_52 (by decide) ?_
        refine lv_iload_n hx hb dX6_holds_53 rfl (lv_at hl 1 rfl) ?_
        refine lv_ishl hx hb dX6_holds_54 ?_
        refine lv_ior hx hb dX6_holds_55 ?_
        refine ziast 1 0 1 hx hb hK hP hD hS rfl rfl (by omega) (z_lt rfl) dX6_holds_56 (fun H locs hP hD hS => ?_)
        have hP : va_P D vwCl [(x9, .inr (10, [.int th, .int (nI ch), .int era, .int why, .int det, .int cau, .int (zI sv), .int (zI rj), .ref v9, .ref b9, .ref s9, .ref k9, .ref p9, .ref t9, .ref n9, .int (nI tn), .int (nI he), .int (nI en), .int (nI ln), .int (zI iw), .int (zI dg)])), (v9, .inl (cy 0, 188, .inl (upd v 1 ((v 1) ||| (1 <<< ((nI a) &&& 31))))))] H := hP
        have hD : va_D A [(x9, .inr (10, [.int th, .int (nI ch), .int era, .int why, .int det, .int cau, .int (zI sv), .int (zI rj), .ref v9, .ref b9, .ref s9, .ref k9, .ref p9, .ref t9, .ref n9, .int (nI tn), .int (nI he), .int (nI en), .int (nI ln), .int (zI iw), .int (zI dg)])), (v9, .inl (cy 0, 188, .inl (upd v 1 ((v 1) ||| (1 <<< ((nI a) &&& 31))))))] := hD
        refine lv_aload_n hx hb dX6_holds_57 rfl (lv_at hl 0 rfl) ?_
        refine va_get (D := D) (ci := 10) (v := .ref v9) (C := RX6) (T := TX6) (N := 21) hx hb hts in_RX6 hown hK hP 0 rfl rfl 8 (by decide) (hts _ (List.mem_of_getElem? (i := 1) rfl)) (fun _ h9 => h9) rfl dX6_holds_58 ?_
        refine lv_iconst (v := 1) hx hb dX6_holds_61 (by decide) ?_
        refine ziald 1 0 1 hx hb hK hP rfl rfl (by omega) (z_lt rfl) dX6_holds_62 ?_
        refine z_top (y := v 1 ||| (1 <<< (nI a &&& 31))) (rfl) ?_
        refine zcS (As := [.int (v 1 ||| (1 <<< (nI a &&& 31)))]) (rest := []) [] hg.1 ⟨hx, hb, hml, hown, hts⟩ (c_X6_bits hg l D cy (v 1 ||| (1 <<< (nI a &&& 31))) (by first | assumption | omega)) (va_cwS 1 hts gX6_holds_X6_bits rfl rfl rfl (by decide +kernel) ⟨Nat.le_of_ble_eq_true rfl, Nat.le_of_ble_eq_true rfl⟩) hG hK hP hD hS hA rfl rfl rfl  rfl hl.1 rfl (Nat.le_of_ble_eq_true rfl) dX6_holds_63 ⟨Nat.zero_le _, Nat.zero_le _⟩ (fun H locs hP hD hS => ?_)
        have hP : va_P D vwCl [(x9, .inr (10, [.int th, .int (nI ch), .int era, .int why, .int det, .int cau, .int (zI sv), .int (zI rj), .ref v9, .ref b9, .ref s9, .ref k9, .ref p9, .ref t9, .ref n9, .int (nI tn), .int (nI he), .int (nI en), .int (nI ln), .int (zI iw), .int (zI dg)])), (v9, .inl (cy 0, 188, .inl (upd v 1 ((v 1) ||| (1 <<< ((nI a) &&& 31))))))] H := hP
        have hD : va_D A [(x9, .inr (10, [.int th, .int (nI ch), .int era, .int why, .int det, .int cau, .int (zI sv), .int (zI rj), .ref v9, .ref b9, .ref s9, .ref k9, .ref p9, .ref t9, .ref n9, .int (nI tn), .int (nI he), .int (nI en), .int (nI ln), .int (zI iw), .int (zI dg)])), (v9, .inl (cy 0, 188, .inl (upd v 1 ((v 1) ||| (1 <<< ((nI a) &&& 31))))))] := hD
        exact ziret hend hx hb hr hlk hK hP hD hS dX6_holds_66 rfl (by rfl)
      · replace c_3 := zI1 c_3
        exact absurd hr0 (by simp [zrH, c_1, c_2, c_3])
    · replace c_2 := zI0 c_2
      exact absurd hr0 (by simp [zrH, c_1, c_2])
  · replace c_1 := zI0 c_1
    exact absurd ((zic23 ha).symm.trans c_1) (by decide)

abbrev rmX6_holds_rej : Room := { frames := 2, cells := 0, slots := 0, locals := 44 }
set_option maxHeartbeats 4000000 in
set_option maxRecDepth 100000 in
theorem c_X6_holds_rej {G : zG} (hg : zGN G) (l : Launch) (D : va_G) (cy : Nat → ClassId) (x9 : Nat) (th : Int32) (ch : Nat) (era : Int32) (why : Int32) (det : Int32) (cau : Int32) (sv : Bool) (rj : Bool) (v9 : Nat) (b9 : Nat) (s9 : Nat) (k9 : Nat) (p9 : Nat) (t9 : Nat) (n9 : Nat) (tn : Nat) (he : Nat) (en : Nat) (ln : Nat) (iw : Bool) (dg : Bool) (v : Nat → Int32) (a : Nat) (ha : a < 24) (hr0 : ¬ zrH (v 0) (v 1) a = 0) : zM G D vwCl (zT cy) l yX6_holds wsX6_holds rmX6_holds_rej [.ref x9, .int (nI a)] [(x9, .inr (10, [.int th, .int (nI ch), .int era, .int why, .int det, .int cau, .int (zI sv), .int (zI rj), .ref v9, .ref b9, .ref s9, .ref k9, .ref p9, .ref t9, .ref n9, .int (nI tn), .int (nI he), .int (nI en), .int (nI ln), .int (zI iw), .int (zI dg)])), (v9, .inl (cy 0, 188, .inl v))] (some (.int 0)) [(x9, .inr (10, [.int 2, .int (nI ch), .int era, .int (zrH (v 0) (v 1) a), .int (nI a), .int 0, .int (zI sv), .int (zI true), .ref v9, .ref b9, .ref s9, .ref k9, .ref p9, .ref t9, .ref n9, .int (nI tn), .int (nI he), .int (nI en), .int (nI ln), .int (zI iw), .int (zI dg)])), (v9, .inl (cy 0, 188, .inl v))] := by
  refine zM_of (cc := cX6_holds) (maxL := 2) (ret := (some .int)) (by decide) rfl (Nat.le_of_ble_eq_true rfl) ?_
  intro p e s m below meth c A Q hend hx hb hml hr hts hown hlk hG hK hP hD hA hS ls hl
  have hown : s.vm.findClass RX6 = some m.cls := hown
  have hl : lv_has ls 2 [(0, .ref x9), (1, .int (nI a))] := hl
  refine lv_iload_n hx hb dX6_holds_0 rfl (lv_at hl 1 rfl) ?_
  refine zcS (As := [.int (nI a)]) (rest := []) [] hg.1 ⟨hx, hb, hml, hown, hts⟩ (c_X6_isNeedle hg l D cy (nI a)) (va_cwS 1 hts gX6_holds_X6_isNeedle rfl rfl rfl (by decide +kernel) ⟨Nat.le_of_ble_eq_true rfl, Nat.le_of_ble_eq_true rfl⟩) hG hK hP hD hS hA rfl rfl rfl  rfl hl.1 rfl (Nat.le_of_ble_eq_true rfl) dX6_holds_1 ⟨Nat.zero_le _, Nat.zero_le _⟩ (fun H locs hP hD hS => ?_)
  have hP : va_P D vwCl [(x9, .inr (10, [.int th, .int (nI ch), .int era, .int why, .int det, .int cau, .int (zI sv), .int (zI rj), .ref v9, .ref b9, .ref s9, .ref k9, .ref p9, .ref t9, .ref n9, .int (nI tn), .int (nI he), .int (nI en), .int (nI ln), .int (zI iw), .int (zI dg)])), (v9, .inl (cy 0, 188, .inl v))] H := hP
  have hD : va_D A [(x9, .inr (10, [.int th, .int (nI ch), .int era, .int why, .int det, .int cau, .int (zI sv), .int (zI rj), .ref v9, .ref b9, .ref s9, .ref k9, .ref p9, .ref t9, .ref n9, .int (nI tn), .int (nI he), .int (nI en), .int (nI ln), .int (zI iw), .int (zI dg)])), (v9, .inl (cy 0, 188, .inl v))] := hD
  refine lv_if_ne (tgt := 13) hx hb dX6_holds_4 (by decide) (fun c_1 => ?_) (fun c_1 => ?_)
  · replace c_1 := zI1 c_1
    refine lv_aload_n hx hb dX6_holds_13 rfl (lv_at hl 0 rfl) ?_
    refine lv_iload_n hx hb dX6_holds_14 rfl (lv_at hl 1 rfl) ?_
    refine zcV (As := [.int (nI a)]) (rest := []) [0, 1] 0 hg.1 ⟨hx, hb, hml, hown, hts⟩ (c_X6_isOn hg l D cy x9 th ch era why det cau sv rj v9 b9 s9 k9 p9 t9 n9 tn he en ln iw dg v (nI a)) (cwV 1 hts gX6_holds_X6_isOn rfl rfl rfl (by decide +kernel) ⟨Nat.le_of_ble_eq_true rfl, Nat.le_of_ble_eq_true rfl⟩) hG hK hP hD hS hA rfl rfl rfl rfl rfl rfl hl.1 rfl (Nat.le_of_ble_eq_true rfl) dX6_holds_15 ⟨Nat.zero_le _, Nat.zero_le _⟩ (fun H locs hP hD hS => ?_)
    have hP : va_P D vwCl [(x9, .inr (10, [.int th, .int (nI ch), .int era, .int why, .int det, .int cau, .int (zI sv), .int (zI rj), .ref v9, .ref b9, .ref s9, .ref k9, .ref p9, .ref t9, .ref n9, .int (nI tn), .int (nI he), .int (nI en), .int (nI ln), .int (zI iw), .int (zI dg)])), (v9, .inl (cy 0, 188, .inl v))] H := hP
    have hD : va_D A [(x9, .inr (10, [.int th, .int (nI ch), .int era, .int why, .int det, .int cau, .int (zI sv), .int (zI rj), .ref v9, .ref b9, .ref s9, .ref k9, .ref p9, .ref t9, .ref n9, .int (nI tn), .int (nI he), .int (nI en), .int (nI ln), .int (zI iw), .int (zI dg)])), (v9, .inl (cy 0, 188, .inl v))] := hD
    refine lv_if_ne (tgt := 29) hx hb dX6_holds_18 (by decide) (fun c_2 => ?_) (fun c_2 => ?_)
    · replace c_2 := zI1 c_2
      refine lv_aload_n hx hb dX6_holds_29 rfl (lv_at hl 0 rfl) ?_
      refine lv_iload_n hx hb dX6_holds_30 rfl (lv_at hl 1 rfl) ?_
      refine zcV (As := [.int (nI a)]) (rest := []) [0, 1] 0 hg.1 ⟨hx, hb, hml, hown, hts⟩ (c_X6_isHeld hg l D cy x9 th ch era why det cau sv rj v9 b9 s9 k9 p9 t9 n9 tn he en ln iw dg v (nI a)) (cwV 1 hts gX6_holds_X6_isHeld rfl rfl rfl (by decide +kernel) ⟨Nat.le_of_ble_eq_true rfl, Nat.le_of_ble_eq_true rfl⟩) hG hK hP hD hS hA rfl rfl rfl rfl rfl rfl hl.1 rfl (Nat.le_of_ble_eq_true rfl) dX6_holds_31 ⟨Nat.zero_le _, Nat.zero_le _⟩ (fun H locs hP hD hS => ?_)
      have hP : va_P D vwCl [(x9, .inr (10, [.int th, .int (nI ch), .int era, .int why, .int det, .int cau, .int (zI sv), .int (zI rj), .ref v9, .ref b9, .ref s9, .ref k9, .ref p9, .ref t9, .ref n9, .int (nI tn), .int (nI he), .int (nI en), .int (nI ln), .int (zI iw), .int (zI dg)])), (v9, .inl (cy 0, 188, .inl v))] H := hP
      have hD : va_D A [(x9, .inr (10, [.int th, .int (nI ch), .int era, .int why, .int det, .int cau, .int (zI sv), .int (zI rj), .ref v9, .ref b9, .ref s9, .ref k9, .ref p9, .ref t9, .ref n9, .int (nI tn), .int (nI he), .int (nI en), .int (nI ln), .int (zI iw), .int (zI dg)])), (v9, .inl (cy 0, 188, .inl v))] := hD
      refine lv_if_eq (tgt := 45) hx hb dX6_holds_34 (by decide) (fun c_3 => ?_) (fun c_3 => ?_)
      · replace c_3 := zI0 c_3
        exact absurd (by simp [zrH, c_1, c_2, c_3]) hr0
      · replace c_3 := zI1 c_3
        refine lv_aload_n hx hb dX6_holds_37 rfl (lv_at hl 0 rfl) ?_
        refine lv_iconst (v := 2) hx hb dX6_holds_38 (by decide) ?_
        refine lv_iconst (v := 5) hx hb dX6_holds_39 (by decide) ?_
        refine lv_iload_n hx hb dX6_holds_40 rfl (lv_at hl 1 rfl) ?_
        refine zcV (As := [.int 2, .int 5, .int (nI a)]) (rest := []) [0] 0 hg.1 ⟨hx, hb, hml, hown, hts⟩ (c_X6_rejects hg l D cy x9 th ch era why det cau sv rj v9 b9 s9 k9 p9 t9 n9 tn he en ln iw dg 2 5 (nI a)) (cwV 3 hts gX6_holds_X6_rejects rfl rfl rfl (by decide +kernel) ⟨Nat.le_of_ble_eq_true rfl, Nat.le_of_ble_eq_true rfl⟩) hG hK hP hD hS hA rfl rfl (Eq.trans (b := [x9]) rfl rfl) rfl rfl rfl hl.1 rfl (Nat.le_of_ble_eq_true rfl) dX6_holds_41 ⟨Nat.zero_le _, Nat.zero_le _⟩ (fun H locs hP hD hS => ?_)
        have hP : va_P D vwCl [(x9, .inr (10, [.int 2, .int (nI ch), .int era, .int 5, .int (nI a), .int 0, .int (zI sv), .int (zI true), .ref v9, .ref b9, .ref s9, .ref k9, .ref p9, .ref t9, .ref n9, .int (nI tn), .int (nI he), .int (nI en), .int (nI ln), .int (zI iw), .int (zI dg)])), (v9, .inl (cy 0, 188, .inl v))] H := hP
        have hD : va_D A [(x9, .inr (10, [.int 2, .int (nI ch), .int era, .int 5, .int (nI a), .int 0, .int (zI sv), .int (zI true), .ref v9, .ref b9, .ref s9, .ref k9, .ref p9, .ref t9, .ref n9, .int (nI tn), .int (nI he), .int (nI en), .int (nI ln), .int (zI iw), .int (zI dg)])), (v9, .inl (cy 0, 188, .inl v))] := hD
        exact ziret hend hx hb hr hlk hK hP hD hS dX6_holds_44 rfl (by first | (simp only [zrH, c_1, c_2, c_3, decide_true, decide_false, Bool.not_true, Bool.not_false, Bool.and_true, Bool.true_and, Bool.and_false, Bool.false_and, Bool.or_false, Bool.false_or, Bool.or_true, Bool.true_or, ↓reduceIte, Bool.false_eq_true, not_true_eq_false, not_false_eq_true, and_self]; done) | (simp [zrH, c_1, c_2, c_3]; done) | (simp_all [zrH]; done))
    · replace c_2 := zI0 c_2
      refine lv_aload_n hx hb dX6_holds_21 rfl (lv_at hl 0 rfl) ?_
      refine lv_iconst (v := 2) hx hb dX6_holds_22 (by decide) ?_
      refine lv_iconst (v := 2) hx hb dX6_holds_23 (by decide) ?_
      refine lv_iload_n hx hb dX6_holds_24 rfl (lv_at hl 1 rfl) ?_
      refine zcV (As := [.int 2, .int 2, .int (nI a)]) (rest := []) [0] 0 hg.1 ⟨hx, hb, hml, hown, hts⟩ (c_X6_rejects hg l D cy x9 th ch era why det cau sv rj v9 b9 s9 k9 p9 t9 n9 tn he en ln iw dg 2 2 (nI a)) (cwV 3 hts gX6_holds_X6_rejects rfl rfl rfl (by decide +kernel) ⟨Nat.le_of_ble_eq_true rfl, Nat.le_of_ble_eq_true rfl⟩) hG hK hP hD hS hA rfl rfl (Eq.trans (b := [x9]) rfl rfl) rfl rfl rfl hl.1 rfl (Nat.le_of_ble_eq_true rfl) dX6_holds_25 ⟨Nat.zero_le _, Nat.zero_le _⟩ (fun H locs hP hD hS => ?_)
      have hP : va_P D vwCl [(x9, .inr (10, [.int 2, .int (nI ch), .int era, .int 2, .int (nI a), .int 0, .int (zI sv), .int (zI true), .ref v9, .ref b9, .ref s9, .ref k9, .ref p9, .ref t9, .ref n9, .int (nI tn), .int (nI he), .int (nI en), .int (nI ln), .int (zI iw), .int (zI dg)])), (v9, .inl (cy 0, 188, .inl v))] H := hP
      have hD : va_D A [(x9, .inr (10, [.int 2, .int (nI ch), .int era, .int 2, .int (nI a), .int 0, .int (zI sv), .int (zI true), .ref v9, .ref b9, .ref s9, .ref k9, .ref p9, .ref t9, .ref n9, .int (nI tn), .int (nI he), .int (nI en), .int (nI ln), .int (zI iw), .int (zI dg)])), (v9, .inl (cy 0, 188, .inl v))] := hD
      exact ziret hend hx hb hr hlk hK hP hD hS dX6_holds_28 rfl (by first | (simp only [zrH, c_1, c_2, decide_true, decide_false, Bool.not_true, Bool.not_false, Bool.and_true, Bool.true_and, Bool.and_false, Bool.false_and, Bool.or_false, Bool.false_or, Bool.or_true, Bool.true_or, ↓reduceIte, Bool.false_eq_true, not_true_eq_false, not_false_eq_true, and_self]; done) | (simp [zrH, c_1, c_2]; done) | (simp_all [zrH]; done))
  · replace c_1 := zI0 c_1
    exact absurd ((zic23 ha).symm.trans c_1) (by decide)

abbrev rmX6_holds_f1 : Room := { frames := 2, cells := 0, slots := 0, locals := 42 }
set_option maxHeartbeats 4000000 in
set_option maxRecDepth 100000 in
theorem c_X6_holds_f1 {G : zG} (hg : zGN G) (l : Launch) (D : va_G) (cy : Nat → ClassId) (x9 : Nat) (th : Int32) (ch : Nat) (era : Int32) (why : Int32) (det : Int32) (cau : Int32) (sv : Bool) (rj : Bool) (v9 : Nat) (b9 : Nat) (s9 : Nat) (k9 : Nat) (p9 : Nat) (t9 : Nat) (n9 : Nat) (tn : Nat) (he : Nat) (en : Nat) (ln : Nat) (iw : Bool) (dg : Bool) (nq : Int32) (hq : zic 0 23 nq = false) : zM G D vwCl (zT cy) l yX6_holds wsX6_holds rmX6_holds_f1 [.ref x9, .int nq] [(x9, .inr (10, [.int th, .int (nI ch), .int era, .int why, .int det, .int cau, .int (zI sv), .int (zI rj), .ref v9, .ref b9, .ref s9, .ref k9, .ref p9, .ref t9, .ref n9, .int (nI tn), .int (nI he), .int (nI en), .int (nI ln), .int (zI iw), .int (zI dg)]))] (some (.int 0)) [(x9, .inr (10, [.int 1, .int (nI ch), .int era, .int why, .int det, .int cau, .int (zI sv), .int (zI rj), .ref v9, .ref b9, .ref s9, .ref k9, .ref p9, .ref t9, .ref n9, .int (nI tn), .int (nI he), .int (nI en), .int (nI ln), .int (zI iw), .int (zI dg)]))] := by
  refine zM_of (cc := cX6_holds) (maxL := 2) (ret := (some .int)) (by decide) rfl (Nat.le_of_ble_eq_true rfl) ?_
  intro p e s m below meth c A Q hend hx hb hml hr hts hown hlk hG hK hP hD hA hS ls hl
  have hown : s.vm.findClass RX6 = some m.cls := hown
  have hl : lv_has ls 2 [(0, .ref x9), (1, .int nq)] := hl
  refine lv_iload_n hx hb dX6_holds_0 rfl (lv_at hl 1 rfl) ?_
  refine zcS (As := [.int nq]) (rest := []) [] hg.1 ⟨hx, hb, hml, hown, hts⟩ (c_X6_isNeedle hg l D cy nq) (va_cwS 1 hts gX6_holds_X6_isNeedle rfl rfl rfl (by decide +kernel) ⟨Nat.le_of_ble_eq_true rfl, Nat.le_of_ble_eq_true rfl⟩) hG hK hP hD hS hA rfl rfl rfl  rfl hl.1 rfl (Nat.le_of_ble_eq_true rfl) dX6_holds_1 ⟨Nat.zero_le _, Nat.zero_le _⟩ (fun H locs hP hD hS => ?_)
  have hP : va_P D vwCl [(x9, .inr (10, [.int th, .int (nI ch), .int era, .int why, .int det, .int cau, .int (zI sv), .int (zI rj), .ref v9, .ref b9, .ref s9, .ref k9, .ref p9, .ref t9, .ref n9, .int (nI tn), .int (nI he), .int (nI en), .int (nI ln), .int (zI iw), .int (zI dg)]))] H := hP
  have hD : va_D A [(x9, .inr (10, [.int th, .int (nI ch), .int era, .int why, .int det, .int cau, .int (zI sv), .int (zI rj), .ref v9, .ref b9, .ref s9, .ref k9, .ref p9, .ref t9, .ref n9, .int (nI tn), .int (nI he), .int (nI en), .int (nI ln), .int (zI iw), .int (zI dg)]))] := hD
  refine lv_if_ne (tgt := 13) hx hb dX6_holds_4 (by decide) (fun c_1 => ?_) (fun c_1 => ?_)
  · replace c_1 := zI1 c_1
    exact absurd (hq.symm.trans c_1) (by decide)
  · replace c_1 := zI0 c_1
    refine lv_aload_n hx hb dX6_holds_7 rfl (lv_at hl 0 rfl) ?_
    refine lv_iconst (v := 1) hx hb dX6_holds_8 (by decide) ?_
    refine zcV (As := [.int 1]) (rest := []) [0] 0 hg.1 ⟨hx, hb, hml, hown, hts⟩ (c_X6_fail hg l D cy x9 th ch era why det cau sv rj v9 b9 s9 k9 p9 t9 n9 tn he en ln iw dg 1) (cwV 1 hts gX6_holds_X6_fail rfl rfl rfl (by decide +kernel) ⟨Nat.le_of_ble_eq_true rfl, Nat.le_of_ble_eq_true rfl⟩) hG hK hP hD hS hA rfl rfl (Eq.trans (b := [x9]) rfl rfl) rfl rfl rfl hl.1 rfl (Nat.le_of_ble_eq_true rfl) dX6_holds_9 ⟨Nat.zero_le _, Nat.zero_le _⟩ (fun H locs hP hD hS => ?_)
    have hP : va_P D vwCl [(x9, .inr (10, [.int 1, .int (nI ch), .int era, .int why, .int det, .int cau, .int (zI sv), .int (zI rj), .ref v9, .ref b9, .ref s9, .ref k9, .ref p9, .ref t9, .ref n9, .int (nI tn), .int (nI he), .int (nI en), .int (nI ln), .int (zI iw), .int (zI dg)]))] H := hP
    have hD : va_D A [(x9, .inr (10, [.int 1, .int (nI ch), .int era, .int why, .int det, .int cau, .int (zI sv), .int (zI rj), .ref v9, .ref b9, .ref s9, .ref k9, .ref p9, .ref t9, .ref n9, .int (nI tn), .int (nI he), .int (nI en), .int (nI ln), .int (zI iw), .int (zI dg)]))] := hD
    exact ziret hend hx hb hr hlk hK hP hD hS dX6_holds_12 rfl rfl

abbrev rmX6_frees_ok : Room := { frames := 2, cells := 0, slots := 0, locals := 42 }
set_option maxHeartbeats 4000000 in
set_option maxRecDepth 100000 in
theorem c_X6_frees_ok {G : zG} (hg : zGN G) (l : Launch) (D : va_G) (cy : Nat → ClassId) (x9 : Nat) (th : Int32) (ch : Nat) (era : Int32) (why : Int32) (det : Int32) (cau : Int32) (sv : Bool) (rj : Bool) (v9 : Nat) (b9 : Nat) (s9 : Nat) (k9 : Nat) (p9 : Nat) (t9 : Nat) (n9 : Nat) (tn : Nat) (he : Nat) (en : Nat) (ln : Nat) (iw : Bool) (dg : Bool) (v : Nat → Int32) (a : Nat) (ha : a < 24) (hr0 : zrL (v 1) a = 0) (hsq : zbok 40 (v 1 ^^^ (1 <<< (nI a &&& 31)))) : zM G D vwCl (zT cy) l yX6_frees wsX6_frees rmX6_frees_ok [.ref x9, .int (nI a)] [(x9, .inr (10, [.int th, .int (nI ch), .int era, .int why, .int det, .int cau, .int (zI sv), .int (zI rj), .ref v9, .ref b9, .ref s9, .ref k9, .ref p9, .ref t9, .ref n9, .int (nI tn), .int (nI he), .int (nI en), .int (nI ln), .int (zI iw), .int (zI dg)])), (v9, .inl (cy 0, 188, .inl v))] (some (.int (zbc 40 (v 1 ^^^ (1 <<< (nI a &&& 31))) 0))) [(x9, .inr (10, [.int th, .int (nI ch), .int era, .int why, .int det, .int cau, .int (zI sv), .int (zI rj), .ref v9, .ref b9, .ref s9, .ref k9, .ref p9, .ref t9, .ref n9, .int (nI tn), .int (nI he), .int (nI en), .int (nI ln), .int (zI iw), .int (zI dg)])), (v9, .inl (cy 0, 188, .inl (upd v 1 (v 1 ^^^ (1 <<< (nI a &&& 31))))))] := by
  refine zM_of (cc := cX6_frees) (maxL := 2) (ret := (some .int)) (by decide) rfl (Nat.le_of_ble_eq_true rfl) ?_
  intro p e s m below meth c A Q hend hx hb hml hr hts hown hlk hG hK hP hD hA hS ls hl
  have hown : s.vm.findClass RX6 = some m.cls := hown
  have in_RX6 : ∀ w ∈ u_ws RX6 TX6 21, w ∈ wsX6_frees := by decide +kernel
  have hl : lv_has ls 2 [(0, .ref x9), (1, .int (nI a))] := hl
  refine lv_iload_n hx hb dX6_frees_0 rfl (lv_at hl 1 rfl) ?_
  refine zcS (As := [.int (nI a)]) (rest := []) [] hg.1 ⟨hx, hb, hml, hown, hts⟩ (c_X6_isNeedle hg l D cy (nI a)) (va_cwS 1 hts gX6_frees_X6_isNeedle rfl rfl rfl (by decide +kernel) ⟨Nat.le_of_ble_eq_true rfl, Nat.le_of_ble_eq_true rfl⟩) hG hK hP hD hS hA rfl rfl rfl  rfl hl.1 rfl (Nat.le_of_ble_eq_true rfl) dX6_frees_1 ⟨Nat.zero_le _, Nat.zero_le _⟩ (fun H locs hP hD hS => ?_)
  have hP : va_P D vwCl [(x9, .inr (10, [.int th, .int (nI ch), .int era, .int why, .int det, .int cau, .int (zI sv), .int (zI rj), .ref v9, .ref b9, .ref s9, .ref k9, .ref p9, .ref t9, .ref n9, .int (nI tn), .int (nI he), .int (nI en), .int (nI ln), .int (zI iw), .int (zI dg)])), (v9, .inl (cy 0, 188, .inl v))] H := hP
  have hD : va_D A [(x9, .inr (10, [.int th, .int (nI ch), .int era, .int why, .int det, .int cau, .int (zI sv), .int (zI rj), .ref v9, .ref b9, .ref s9, .ref k9, .ref p9, .ref t9, .ref n9, .int (nI tn), .int (nI he), .int (nI en), .int (nI ln), .int (zI iw), .int (zI dg)])), (v9, .inl (cy 0, 188, .inl v))] := hD
  refine lv_if_ne (tgt := 13) hx hb dX6_frees_4 (by decide) (fun c_1 => ?_) (fun c_1 => ?_)
  · replace c_1 := zI1 c_1
    refine lv_aload_n hx hb dX6_frees_13 rfl (lv_at hl 0 rfl) ?_
    refine lv_iload_n hx hb dX6_frees_14 rfl (lv_at hl 1 rfl) ?_
    refine zcV (As := [.int (nI a)]) (rest := []) [0, 1] 0 hg.1 ⟨hx, hb, hml, hown, hts⟩ (c_X6_isHeld hg l D cy x9 th ch era why det cau sv rj v9 b9 s9 k9 p9 t9 n9 tn he en ln iw dg v (nI a)) (cwV 1 hts gX6_frees_X6_isHeld rfl rfl rfl (by decide +kernel) ⟨Nat.le_of_ble_eq_true rfl, Nat.le_of_ble_eq_true rfl⟩) hG hK hP hD hS hA rfl rfl rfl rfl rfl rfl hl.1 rfl (Nat.le_of_ble_eq_true rfl) dX6_frees_15 ⟨Nat.zero_le _, Nat.zero_le _⟩ (fun H locs hP hD hS => ?_)
    have hP : va_P D vwCl [(x9, .inr (10, [.int th, .int (nI ch), .int era, .int why, .int det, .int cau, .int (zI sv), .int (zI rj), .ref v9, .ref b9, .ref s9, .ref k9, .ref p9, .ref t9, .ref n9, .int (nI tn), .int (nI he), .int (nI en), .int (nI ln), .int (zI iw), .int (zI dg)])), (v9, .inl (cy 0, 188, .inl v))] H := hP
    have hD : va_D A [(x9, .inr (10, [.int th, .int (nI ch), .int era, .int why, .int det, .int cau, .int (zI sv), .int (zI rj), .ref v9, .ref b9, .ref s9, .ref k9, .ref p9, .ref t9, .ref n9, .int (nI tn), .int (nI he), .int (nI en), .int (nI ln), .int (zI iw), .int (zI dg)])), (v9, .inl (cy 0, 188, .inl v))] := hD
    refine lv_if_ne (tgt := 30) hx hb dX6_frees_18 (by decide) (fun c_2 => ?_) (fun c_2 => ?_)
    · replace c_2 := zI1 c_2
      refine lv_aload_n hx hb dX6_frees_30 rfl (lv_at hl 0 rfl) ?_
      refine va_get (D := D) (ci := 10) (v := .ref v9) (C := RX6) (T := TX6) (N := 21) hx hb hts in_RX6 hown hK hP 0 rfl rfl 8 (by decide) (hts _ (List.mem_of_getElem? (i := 1) rfl)) (fun _ h9 => h9) rfl dX6_frees_31 ?_
      refine lv_iconst (v := 1) hx hb dX6_frees_34 (by decide) ?_
      refine lv_dup2_11 hx hb dX6_frees_35 rfl rfl ?_
      refine ziald 1 0 1 hx hb hK hP rfl rfl (by omega) (z_lt rfl) dX6_frees_36 ?_
      refine lv_iconst (v := 1) hx hb dX6_frees_37 (by decide) ?_
      refine lv_iload_n hx hb dX6_frees_38 rfl (lv_at hl 1 rfl) ?_
      refine lv_ishl hx hb dX6_frees_39 ?_
      refine lv_ixor hx hb dX6_frees_40 ?_
      refine ziast 1 0 1 hx hb hK hP hD hS rfl rfl (by omega) (z_lt rfl) dX6_frees_41 (fun H locs hP hD hS => ?_)
      have hP : va_P D vwCl [(x9, .inr (10, [.int th, .int (nI ch), .int era, .int why, .int det, .int cau, .int (zI sv), .int (zI rj), .ref v9, .ref b9, .ref s9, .ref k9, .ref p9, .ref t9, .ref n9, .int (nI tn), .int (nI he), .int (nI en), .int (nI ln), .int (zI iw), .int (zI dg)])), (v9, .inl (cy 0, 188, .inl (upd v 1 ((v 1) ^^^ (1 <<< ((nI a) &&& 31))))))] H := hP
      have hD : va_D A [(x9, .inr (10, [.int th, .int (nI ch), .int era, .int why, .int det, .int cau, .int (zI sv), .int (zI rj), .ref v9, .ref b9, .ref s9, .ref k9, .ref p9, .ref t9, .ref n9, .int (nI tn), .int (nI he), .int (nI en), .int (nI ln), .int (zI iw), .int (zI dg)])), (v9, .inl (cy 0, 188, .inl (upd v 1 ((v 1) ^^^ (1 <<< ((nI a) &&& 31))))))] := hD
      refine lv_aload_n hx hb dX6_frees_42 rfl (lv_at hl 0 rfl) ?_
      refine va_get (D := D) (ci := 10) (v := .ref v9) (C := RX6) (T := TX6) (N := 21) hx hb hts in_RX6 hown hK hP 0 rfl rfl 8 (by decide) (hts _ (List.mem_of_getElem? (i := 1) rfl)) (fun _ h9 => h9) rfl dX6_frees_43 ?_
      refine lv_iconst (v := 1) hx hb dX6_frees_46 (by decide) ?_
      refine ziald 1 0 1 hx hb hK hP rfl rfl (by omega) (z_lt rfl) dX6_frees_47 ?_
      refine z_top (y := v 1 ^^^ (1 <<< (nI a &&& 31))) (rfl) ?_
      refine zcS (As := [.int (v 1 ^^^ (1 <<< (nI a &&& 31)))]) (rest := []) [] hg.1 ⟨hx, hb, hml, hown, hts⟩ (c_X6_bits hg l D cy (v 1 ^^^ (1 <<< (nI a &&& 31))) (by first | assumption | omega)) (va_cwS 1 hts gX6_frees_X6_bits rfl rfl rfl (by decide +kernel) ⟨Nat.le_of_ble_eq_true rfl, Nat.le_of_ble_eq_true rfl⟩) hG hK hP hD hS hA rfl rfl rfl  rfl hl.1 rfl (Nat.le_of_ble_eq_true rfl) dX6_frees_48 ⟨Nat.zero_le _, Nat.zero_le _⟩ (fun H locs hP hD hS => ?_)
      have hP : va_P D vwCl [(x9, .inr (10, [.int th, .int (nI ch), .int era, .int why, .int det, .int cau, .int (zI sv), .int (zI rj), .ref v9, .ref b9, .ref s9, .ref k9, .ref p9, .ref t9, .ref n9, .int (nI tn), .int (nI he), .int (nI en), .int (nI ln), .int (zI iw), .int (zI dg)])), (v9, .inl (cy 0, 188, .inl (upd v 1 ((v 1) ^^^ (1 <<< ((nI a) &&& 31))))))] H := hP
      have hD : va_D A [(x9, .inr (10, [.int th, .int (nI ch), .int era, .int why, .int det, .int cau, .int (zI sv), .int (zI rj), .ref v9, .ref b9, .ref s9, .ref k9, .ref p9, .ref t9, .ref n9, .int (nI tn), .int (nI he), .int (nI en), .int (nI ln), .int (zI iw), .int (zI dg)])), (v9, .inl (cy 0, 188, .inl (upd v 1 ((v 1) ^^^ (1 <<< ((nI a) &&& 31))))))] := hD
      exact ziret hend hx hb hr hlk hK hP hD hS dX6_frees_51 rfl (by rfl)
    · replace c_2 := zI0 c_2
      exact absurd hr0 (by simp [zrL, c_1, c_2])
  · replace c_1 := zI0 c_1
    exact absurd ((zic23 ha).symm.trans c_1) (by decide)

abbrev rmX6_frees_rej : Room := { frames := 2, cells := 0, slots := 0, locals := 44 }
set_option maxHeartbeats 4000000 in
set_option maxRecDepth 100000 in
theorem c_X6_frees_rej {G : zG} (hg : zGN G) (l : Launch) (D : va_G) (cy : Nat → ClassId) (x9 : Nat) (th : Int32) (ch : Nat) (era : Int32) (why : Int32) (det : Int32) (cau : Int32) (sv : Bool) (rj : Bool) (v9 : Nat) (b9 : Nat) (s9 : Nat) (k9 : Nat) (p9 : Nat) (t9 : Nat) (n9 : Nat) (tn : Nat) (he : Nat) (en : Nat) (ln : Nat) (iw : Bool) (dg : Bool) (v : Nat → Int32) (a : Nat) (ha : a < 24) (hr0 : ¬ zrL (v 1) a = 0) : zM G D vwCl (zT cy) l yX6_frees wsX6_frees rmX6_frees_rej [.ref x9, .int (nI a)] [(x9, .inr (10, [.int th, .int (nI ch), .int era, .int why, .int det, .int cau, .int (zI sv), .int (zI rj), .ref v9, .ref b9, .ref s9, .ref k9, .ref p9, .ref t9, .ref n9, .int (nI tn), .int (nI he), .int (nI en), .int (nI ln), .int (zI iw), .int (zI dg)])), (v9, .inl (cy 0, 188, .inl v))] (some (.int 0)) [(x9, .inr (10, [.int 2, .int (nI ch), .int era, .int (zrL (v 1) a), .int (nI a), .int 0, .int (zI sv), .int (zI true), .ref v9, .ref b9, .ref s9, .ref k9, .ref p9, .ref t9, .ref n9, .int (nI tn), .int (nI he), .int (nI en), .int (nI ln), .int (zI iw), .int (zI dg)])), (v9, .inl (cy 0, 188, .inl v))] := by
  refine zM_of (cc := cX6_frees) (maxL := 2) (ret := (some .int)) (by decide) rfl (Nat.le_of_ble_eq_true rfl) ?_
  intro p e s m below meth c A Q hend hx hb hml hr hts hown hlk hG hK hP hD hA hS ls hl
  have hown : s.vm.findClass RX6 = some m.cls := hown
  have hl : lv_has ls 2 [(0, .ref x9), (1, .int (nI a))] := hl
  refine lv_iload_n hx hb dX6_frees_0 rfl (lv_at hl 1 rfl) ?_
  refine zcS (As := [.int (nI a)]) (rest := []) [] hg.1 ⟨hx, hb, hml, hown, hts⟩ (c_X6_isNeedle hg l D cy (nI a)) (va_cwS 1 hts gX6_frees_X6_isNeedle rfl rfl rfl (by decide +kernel) ⟨Nat.le_of_ble_eq_true rfl, Nat.le_of_ble_eq_true rfl⟩) hG hK hP hD hS hA rfl rfl rfl  rfl hl.1 rfl (Nat.le_of_ble_eq_true rfl) dX6_frees_1 ⟨Nat.zero_le _, Nat.zero_le _⟩ (fun H locs hP hD hS => ?_)
  have hP : va_P D vwCl [(x9, .inr (10, [.int th, .int (nI ch), .int era, .int why, .int det, .int cau, .int (zI sv), .int (zI rj), .ref v9, .ref b9, .ref s9, .ref k9, .ref p9, .ref t9, .ref n9, .int (nI tn), .int (nI he), .int (nI en), .int (nI ln), .int (zI iw), .int (zI dg)])), (v9, .inl (cy 0, 188, .inl v))] H := hP
  have hD : va_D A [(x9, .inr (10, [.int th, .int (nI ch), .int era, .int why, .int det, .int cau, .int (zI sv), .int (zI rj), .ref v9, .ref b9, .ref s9, .ref k9, .ref p9, .ref t9, .ref n9, .int (nI tn), .int (nI he), .int (nI en), .int (nI ln), .int (zI iw), .int (zI dg)])), (v9, .inl (cy 0, 188, .inl v))] := hD
  refine lv_if_ne (tgt := 13) hx hb dX6_frees_4 (by decide) (fun c_1 => ?_) (fun c_1 => ?_)
  · replace c_1 := zI1 c_1
    refine lv_aload_n hx hb dX6_frees_13 rfl (lv_at hl 0 rfl) ?_
    refine lv_iload_n hx hb dX6_frees_14 rfl (lv_at hl 1 rfl) ?_
    refine zcV (As := [.int (nI a)]) (rest := []) [0, 1] 0 hg.1 ⟨hx, hb, hml, hown, hts⟩ (c_X6_isHeld hg l D cy x9 th ch era why det cau sv rj v9 b9 s9 k9 p9 t9 n9 tn he en ln iw dg v (nI a)) (cwV 1 hts gX6_frees_X6_isHeld rfl rfl rfl (by decide +kernel) ⟨Nat.le_of_ble_eq_true rfl, Nat.le_of_ble_eq_true rfl⟩) hG hK hP hD hS hA rfl rfl rfl rfl rfl rfl hl.1 rfl (Nat.le_of_ble_eq_true rfl) dX6_frees_15 ⟨Nat.zero_le _, Nat.zero_le _⟩ (fun H locs hP hD hS => ?_)
    have hP : va_P D vwCl [(x9, .inr (10, [.int th, .int (nI ch), .int era, .int why, .int det, .int cau, .int (zI sv), .int (zI rj), .ref v9, .ref b9, .ref s9, .ref k9, .ref p9, .ref t9, .ref n9, .int (nI tn), .int (nI he), .int (nI en), .int (nI ln), .int (zI iw), .int (zI dg)])), (v9, .inl (cy 0, 188, .inl v))] H := hP
    have hD : va_D A [(x9, .inr (10, [.int th, .int (nI ch), .int era, .int why, .int det, .int cau, .int (zI sv), .int (zI rj), .ref v9, .ref b9, .ref s9, .ref k9, .ref p9, .ref t9, .ref n9, .int (nI tn), .int (nI he), .int (nI en), .int (nI ln), .int (zI iw), .int (zI dg)])), (v9, .inl (cy 0, 188, .inl v))] := hD
    refine lv_if_ne (tgt := 30) hx hb dX6_frees_18 (by decide) (fun c_2 => ?_) (fun c_2 => ?_)
    · replace c_2 := zI1 c_2
      exact absurd (by simp [zrL, c_1, c_2]) hr0
    · replace c_2 := zI0 c_2
      refine lv_aload_n hx hb dX6_frees_21 rfl (lv_at hl 0 rfl) ?_
      refine lv_iconst (v := 2) hx hb dX6_frees_22 (by decide) ?_
      refine lv_bipush (v := 6) hx hb dX6_frees_23 (by decide) ?_
      refine lv_iload_n hx hb dX6_frees_25 rfl (lv_at hl 1 rfl) ?_
      refine zcV (As := [.int 2, .int 6, .int (nI a)]) (rest := []) [0] 0 hg.1 ⟨hx, hb, hml, hown, hts⟩ (c_X6_rejects hg l D cy x9 th ch era why det cau sv rj v9 b9 s9 k9 p9 t9 n9 tn he en ln iw dg 2 6 (nI a)) (cwV 3 hts gX6_frees_X6_rejects rfl rfl rfl (by decide +kernel) ⟨Nat.le_of_ble_eq_true rfl, Nat.le_of_ble_eq_true rfl⟩) hG hK hP hD hS hA rfl rfl (Eq.trans (b := [x9]) rfl rfl) rfl rfl rfl hl.1 rfl (Nat.le_of_ble_eq_true rfl) dX6_frees_26 ⟨Nat.zero_le _, Nat.zero_le _⟩ (fun H locs hP hD hS => ?_)
      have hP : va_P D vwCl [(x9, .inr (10, [.int 2, .int (nI ch), .int era, .int 6, .int (nI a), .int 0, .int (zI sv), .int (zI true), .ref v9, .ref b9, .ref s9, .ref k9, .ref p9, .ref t9, .ref n9, .int (nI tn), .int (nI he), .int (nI en), .int (nI ln), .int (zI iw), .int (zI dg)])), (v9, .inl (cy 0, 188, .inl v))] H := hP
      have hD : va_D A [(x9, .inr (10, [.int 2, .int (nI ch), .int era, .int 6, .int (nI a), .int 0, .int (zI sv), .int (zI true), .ref v9, .ref b9, .ref s9, .ref k9, .ref p9, .ref t9, .ref n9, .int (nI tn), .int (nI he), .int (nI en), .int (nI ln), .int (zI iw), .int (zI dg)])), (v9, .inl (cy 0, 188, .inl v))] := hD
      exact ziret hend hx hb hr hlk hK hP hD hS dX6_frees_29 rfl (by first | (simp only [zrL, c_1, c_2, decide_true, decide_false, Bool.not_true, Bool.not_false, Bool.and_true, Bool.true_and, Bool.and_false, Bool.false_and, Bool.or_false, Bool.false_or, Bool.or_true, Bool.true_or, ↓reduceIte, Bool.false_eq_true, not_true_eq_false, not_false_eq_true, and_self]; done) | (simp [zrL, c_1, c_2]; done) | (simp_all [zrL]; done))
  · replace c_1 := zI0 c_1
    exact absurd ((zic23 ha).symm.trans c_1) (by decide)

abbrev rmX6_frees_f1 : Room := { frames := 2, cells := 0, slots := 0, locals := 42 }
set_option maxHeartbeats 4000000 in
set_option maxRecDepth 100000 in
theorem c_X6_frees_f1 {G : zG} (hg : zGN G) (l : Launch) (D : va_G) (cy : Nat → ClassId) (x9 : Nat) (th : Int32) (ch : Nat) (era : Int32) (why : Int32) (det : Int32) (cau : Int32) (sv : Bool) (rj : Bool) (v9 : Nat) (b9 : Nat) (s9 : Nat) (k9 : Nat) (p9 : Nat) (t9 : Nat) (n9 : Nat) (tn : Nat) (he : Nat) (en : Nat) (ln : Nat) (iw : Bool) (dg : Bool) (nq : Int32) (hq : zic 0 23 nq = false) : zM G D vwCl (zT cy) l yX6_frees wsX6_frees rmX6_frees_f1 [.ref x9, .int nq] [(x9, .inr (10, [.int th, .int (nI ch), .int era, .int why, .int det, .int cau, .int (zI sv), .int (zI rj), .ref v9, .ref b9, .ref s9, .ref k9, .ref p9, .ref t9, .ref n9, .int (nI tn), .int (nI he), .int (nI en), .int (nI ln), .int (zI iw), .int (zI dg)]))] (some (.int 0)) [(x9, .inr (10, [.int 1, .int (nI ch), .int era, .int why, .int det, .int cau, .int (zI sv), .int (zI rj), .ref v9, .ref b9, .ref s9, .ref k9, .ref p9, .ref t9, .ref n9, .int (nI tn), .int (nI he), .int (nI en), .int (nI ln), .int (zI iw), .int (zI dg)]))] := by
  refine zM_of (cc := cX6_frees) (maxL := 2) (ret := (some .int)) (by decide) rfl (Nat.le_of_ble_eq_true rfl) ?_
  intro p e s m below meth c A Q hend hx hb hml hr hts hown hlk hG hK hP hD hA hS ls hl
  have hown : s.vm.findClass RX6 = some m.cls := hown
  have hl : lv_has ls 2 [(0, .ref x9), (1, .int nq)] := hl
  refine lv_iload_n hx hb dX6_frees_0 rfl (lv_at hl 1 rfl) ?_
  refine zcS (As := [.int nq]) (rest := []) [] hg.1 ⟨hx, hb, hml, hown, hts⟩ (c_X6_isNeedle hg l D cy nq) (va_cwS 1 hts gX6_frees_X6_isNeedle rfl rfl rfl (by decide +kernel) ⟨Nat.le_of_ble_eq_true rfl, Nat.le_of_ble_eq_true rfl⟩) hG hK hP hD hS hA rfl rfl rfl  rfl hl.1 rfl (Nat.le_of_ble_eq_true rfl) dX6_frees_1 ⟨Nat.zero_le _, Nat.zero_le _⟩ (fun H locs hP hD hS => ?_)
  have hP : va_P D vwCl [(x9, .inr (10, [.int th, .int (nI ch), .int era, .int why, .int det, .int cau, .int (zI sv), .int (zI rj), .ref v9, .ref b9, .ref s9, .ref k9, .ref p9, .ref t9, .ref n9, .int (nI tn), .int (nI he), .int (nI en), .int (nI ln), .int (zI iw), .int (zI dg)]))] H := hP
  have hD : va_D A [(x9, .inr (10, [.int th, .int (nI ch), .int era, .int why, .int det, .int cau, .int (zI sv), .int (zI rj), .ref v9, .ref b9, .ref s9, .ref k9, .ref p9, .ref t9, .ref n9, .int (nI tn), .int (nI he), .int (nI en), .int (nI ln), .int (zI iw), .int (zI dg)]))] := hD
  refine lv_if_ne (tgt := 13) hx hb dX6_frees_4 (by decide) (fun c_1 => ?_) (fun c_1 => ?_)
  · replace c_1 := zI1 c_1
    exact absurd (hq.symm.trans c_1) (by decide)
  · replace c_1 := zI0 c_1
    refine lv_aload_n hx hb dX6_frees_7 rfl (lv_at hl 0 rfl) ?_
    refine lv_iconst (v := 1) hx hb dX6_frees_8 (by decide) ?_
    refine zcV (As := [.int 1]) (rest := []) [0] 0 hg.1 ⟨hx, hb, hml, hown, hts⟩ (c_X6_fail hg l D cy x9 th ch era why det cau sv rj v9 b9 s9 k9 p9 t9 n9 tn he en ln iw dg 1) (cwV 1 hts gX6_frees_X6_fail rfl rfl rfl (by decide +kernel) ⟨Nat.le_of_ble_eq_true rfl, Nat.le_of_ble_eq_true rfl⟩) hG hK hP hD hS hA rfl rfl (Eq.trans (b := [x9]) rfl rfl) rfl rfl rfl hl.1 rfl (Nat.le_of_ble_eq_true rfl) dX6_frees_9 ⟨Nat.zero_le _, Nat.zero_le _⟩ (fun H locs hP hD hS => ?_)
    have hP : va_P D vwCl [(x9, .inr (10, [.int 1, .int (nI ch), .int era, .int why, .int det, .int cau, .int (zI sv), .int (zI rj), .ref v9, .ref b9, .ref s9, .ref k9, .ref p9, .ref t9, .ref n9, .int (nI tn), .int (nI he), .int (nI en), .int (nI ln), .int (zI iw), .int (zI dg)]))] H := hP
    have hD : va_D A [(x9, .inr (10, [.int 1, .int (nI ch), .int era, .int why, .int det, .int cau, .int (zI sv), .int (zI rj), .ref v9, .ref b9, .ref s9, .ref k9, .ref p9, .ref t9, .ref n9, .int (nI tn), .int (nI he), .int (nI en), .int (nI ln), .int (zI iw), .int (zI dg)]))] := hD
    exact ziret hend hx hb hr hlk hK hP hD hS dX6_frees_12 rfl rfl

abbrev rmX6_drops_ok : Room := { frames := 2, cells := 0, slots := 0, locals := 42 }
set_option maxHeartbeats 4000000 in
set_option maxRecDepth 100000 in
theorem c_X6_drops_ok {G : zG} (hg : zGN G) (l : Launch) (D : va_G) (cy : Nat → ClassId) (x9 : Nat) (th : Int32) (ch : Nat) (era : Int32) (why : Int32) (det : Int32) (cau : Int32) (sv : Bool) (rj : Bool) (v9 : Nat) (b9 : Nat) (s9 : Nat) (k9 : Nat) (p9 : Nat) (t9 : Nat) (n9 : Nat) (tn : Nat) (he : Nat) (en : Nat) (ln : Nat) (iw : Bool) (dg : Bool) (v : Nat → Int32) (a : Nat) (ha : a < 24) (hr0 : zrT (zlo v) (v 0) a = 0) : zM G D vwCl (zT cy) l yX6_drops wsX6_drops rmX6_drops_ok [.ref x9, .int (nI a)] [(x9, .inr (10, [.int th, .int (nI ch), .int era, .int why, .int det, .int cau, .int (zI sv), .int (zI rj), .ref v9, .ref b9, .ref s9, .ref k9, .ref p9, .ref t9, .ref n9, .int (nI tn), .int (nI he), .int (nI en), .int (nI ln), .int (zI iw), .int (zI dg)])), (v9, .inl (cy 0, 188, .inl v))] (some (.int (v (10 + a)))) [(x9, .inr (10, [.int th, .int (nI ch), .int era, .int why, .int det, .int cau, .int (zI sv), .int (zI rj), .ref v9, .ref b9, .ref s9, .ref k9, .ref p9, .ref t9, .ref n9, .int (nI tn), .int (nI he), .int (nI en), .int (nI ln), .int (zI iw), .int (zI dg)])), (v9, .inl (cy 0, 188, .inl (upd (zpt v a 0 0) 9 (zpt v a 0 0 9 + v (10 + a)))))] := by
  refine zM_of (cc := cX6_drops) (maxL := 3) (ret := (some .int)) (by decide) rfl (Nat.le_of_ble_eq_true rfl) ?_
  intro p e s m below meth c A Q hend hx hb hml hr hts hown hlk hG hK hP hD hA hS ls hl
  have hown : s.vm.findClass RX6 = some m.cls := hown
  have in_RX6 : ∀ w ∈ u_ws RX6 TX6 21, w ∈ wsX6_drops := by decide +kernel
  have hl : lv_has ls 3 [(0, .ref x9), (1, .int (nI a))] := hl
  refine lv_iload_n hx hb dX6_drops_0 rfl (lv_at hl 1 rfl) ?_
  refine zcS (As := [.int (nI a)]) (rest := []) [] hg.1 ⟨hx, hb, hml, hown, hts⟩ (c_X6_isNeedle hg l D cy (nI a)) (va_cwS 1 hts gX6_drops_X6_isNeedle rfl rfl rfl (by decide +kernel) ⟨Nat.le_of_ble_eq_true rfl, Nat.le_of_ble_eq_true rfl⟩) hG hK hP hD hS hA rfl rfl rfl  rfl hl.1 rfl (Nat.le_of_ble_eq_true rfl) dX6_drops_1 ⟨Nat.zero_le _, Nat.zero_le _⟩ (fun H locs hP hD hS => ?_)
  have hP : va_P D vwCl [(x9, .inr (10, [.int th, .int (nI ch), .int era, .int why, .int det, .int cau, .int (zI sv), .int (zI rj), .ref v9, .ref b9, .ref s9, .ref k9, .ref p9, .ref t9, .ref n9, .int (nI tn), .int (nI he), .int (nI en), .int (nI ln), .int (zI iw), .int (zI dg)])), (v9, .inl (cy 0, 188, .inl v))] H := hP
  have hD : va_D A [(x9, .inr (10, [.int th, .int (nI ch), .int era, .int why, .int det, .int cau, .int (zI sv), .int (zI rj), .ref v9, .ref b9, .ref s9, .ref k9, .ref p9, .ref t9, .ref n9, .int (nI tn), .int (nI he), .int (nI en), .int (nI ln), .int (zI iw), .int (zI dg)])), (v9, .inl (cy 0, 188, .inl v))] := hD
  refine lv_if_ne (tgt := 13) hx hb dX6_drops_4 (by decide) (fun c_1 => ?_) (fun c_1 => ?_)
  · replace c_1 := zI1 c_1
    refine lv_aload_n hx hb dX6_drops_13 rfl (lv_at hl 0 rfl) ?_
    refine lv_iload_n hx hb dX6_drops_14 rfl (lv_at hl 1 rfl) ?_
    refine zcV (As := [.int (nI a)]) (rest := []) [0, 1] 0 hg.1 ⟨hx, hb, hml, hown, hts⟩ (c_X6_isOn hg l D cy x9 th ch era why det cau sv rj v9 b9 s9 k9 p9 t9 n9 tn he en ln iw dg v (nI a)) (cwV 1 hts gX6_drops_X6_isOn rfl rfl rfl (by decide +kernel) ⟨Nat.le_of_ble_eq_true rfl, Nat.le_of_ble_eq_true rfl⟩) hG hK hP hD hS hA rfl rfl rfl rfl rfl rfl hl.1 rfl (Nat.le_of_ble_eq_true rfl) dX6_drops_15 ⟨Nat.zero_le _, Nat.zero_le _⟩ (fun H locs hP hD hS => ?_)
    have hP : va_P D vwCl [(x9, .inr (10, [.int th, .int (nI ch), .int era, .int why, .int det, .int cau, .int (zI sv), .int (zI rj), .ref v9, .ref b9, .ref s9, .ref k9, .ref p9, .ref t9, .ref n9, .int (nI tn), .int (nI he), .int (nI en), .int (nI ln), .int (zI iw), .int (zI dg)])), (v9, .inl (cy 0, 188, .inl v))] H := hP
    have hD : va_D A [(x9, .inr (10, [.int th, .int (nI ch), .int era, .int why, .int det, .int cau, .int (zI sv), .int (zI rj), .ref v9, .ref b9, .ref s9, .ref k9, .ref p9, .ref t9, .ref n9, .int (nI tn), .int (nI he), .int (nI en), .int (nI ln), .int (zI iw), .int (zI dg)])), (v9, .inl (cy 0, 188, .inl v))] := hD
    refine lv_if_ne (tgt := 29) hx hb dX6_drops_18 (by decide) (fun c_2 => ?_) (fun c_2 => ?_)
    · replace c_2 := zI1 c_2
      refine lv_aload_n hx hb dX6_drops_29 rfl (lv_at hl 0 rfl) ?_
      refine va_get (D := D) (ci := 10) (v := .ref v9) (C := RX6) (T := TX6) (N := 21) hx hb hts in_RX6 hown hK hP 0 rfl rfl 8 (by decide) (hts _ (List.mem_of_getElem? (i := 1) rfl)) (fun _ h9 => h9) rfl dX6_drops_30 ?_
      refine lv_bipush (v := 10) hx hb dX6_drops_33 (by decide) ?_
      refine lv_iload_n hx hb dX6_drops_35 rfl (lv_at hl 1 rfl) ?_
      refine lv_iadd hx hb dX6_drops_36 ?_
      refine z_top (y := nI (10 + a)) (nI_add 10 a) ?_
      refine ziald 1 0 (10 + a) hx hb hK hP rfl rfl (by omega) (z_lt rfl) dX6_drops_37 ?_
      refine lv_istore_n (lv' := [(2, .int (v (10 + a))), (0, .ref x9), (1, .int (nI a))]) hx hb dX6_drops_38 rfl hl (by decide) rfl (fun ls hl => ?_)
      refine lv_iload_n hx hb dX6_drops_39 rfl (lv_at hl 0 rfl) ?_
      refine lv_if_ne (tgt := 59) hx hb dX6_drops_40 (by decide) (fun c_3 => ?_) (fun c_3 => ?_)
      · refine lv_aload_n hx hb dX6_drops_59 rfl (lv_at hl 1 rfl) ?_
        refine lv_iload_n hx hb dX6_drops_60 rfl (lv_at hl 2 rfl) ?_
        refine lv_iconst (v := 0) hx hb dX6_drops_61 (by decide) ?_
        refine lv_iconst (v := 0) hx hb dX6_drops_62 (by decide) ?_
        refine zcV (As := [.int (nI a), .int 0, .int 0]) (rest := []) [0, 1] 0 hg.1 ⟨hx, hb, hml, hown, hts⟩ (c_X6_puts hg l D cy x9 th ch era why det cau sv rj v9 b9 s9 k9 p9 t9 n9 tn he en ln iw dg v a 0 0 (by first | assumption | omega)) (cwV 3 hts gX6_drops_X6_puts rfl rfl rfl (by decide +kernel) ⟨Nat.le_of_ble_eq_true rfl, Nat.le_of_ble_eq_true rfl⟩) hG hK hP hD hS hA rfl rfl (Eq.trans (b := [x9, v9]) rfl rfl) rfl rfl rfl hl.1 rfl (Nat.le_of_ble_eq_true rfl) dX6_drops_63 ⟨Nat.zero_le _, Nat.zero_le _⟩ (fun H locs hP hD hS => ?_)
        have hP : va_P D vwCl [(x9, .inr (10, [.int th, .int (nI ch), .int era, .int why, .int det, .int cau, .int (zI sv), .int (zI rj), .ref v9, .ref b9, .ref s9, .ref k9, .ref p9, .ref t9, .ref n9, .int (nI tn), .int (nI he), .int (nI en), .int (nI ln), .int (zI iw), .int (zI dg)])), (v9, .inl (cy 0, 188, .inl (zpt v a 0 0)))] H := hP
        have hD : va_D A [(x9, .inr (10, [.int th, .int (nI ch), .int era, .int why, .int det, .int cau, .int (zI sv), .int (zI rj), .ref v9, .ref b9, .ref s9, .ref k9, .ref p9, .ref t9, .ref n9, .int (nI tn), .int (nI he), .int (nI en), .int (nI ln), .int (zI iw), .int (zI dg)])), (v9, .inl (cy 0, 188, .inl (zpt v a 0 0)))] := hD
        refine lv_aload_n hx hb dX6_drops_66 rfl (lv_at hl 1 rfl) ?_
        refine va_get (D := D) (ci := 10) (v := .ref v9) (C := RX6) (T := TX6) (N := 21) hx hb hts in_RX6 hown hK hP 0 rfl rfl 8 (by decide) (hts _ (List.mem_of_getElem? (i := 1) rfl)) (fun _ h9 => h9) rfl dX6_drops_67 ?_
        refine lv_bipush (v := 9) hx hb dX6_drops_70 (by decide) ?_
        refine lv_dup2_11 hx hb dX6_drops_72 rfl rfl ?_
        refine ziald 1 0 9 hx hb hK hP rfl rfl (by omega) (z_lt rfl) dX6_drops_73 ?_
        refine lv_iload_n hx hb dX6_drops_74 rfl (lv_at hl 0 rfl) ?_
        refine lv_iadd hx hb dX6_drops_75 ?_
        refine ziast 1 0 9 hx hb hK hP hD hS rfl rfl (by omega) (z_lt rfl) dX6_drops_76 (fun H locs hP hD hS => ?_)
        have hP : va_P D vwCl [(x9, .inr (10, [.int th, .int (nI ch), .int era, .int why, .int det, .int cau, .int (zI sv), .int (zI rj), .ref v9, .ref b9, .ref s9, .ref k9, .ref p9, .ref t9, .ref n9, .int (nI tn), .int (nI he), .int (nI en), .int (nI ln), .int (zI iw), .int (zI dg)])), (v9, .inl (cy 0, 188, .inl (upd (zpt v a 0 0) 9 (((zpt v a 0 0) 9) + (v (10 + a))))))] H := hP
        have hD : va_D A [(x9, .inr (10, [.int th, .int (nI ch), .int era, .int why, .int det, .int cau, .int (zI sv), .int (zI rj), .ref v9, .ref b9, .ref s9, .ref k9, .ref p9, .ref t9, .ref n9, .int (nI tn), .int (nI he), .int (nI en), .int (nI ln), .int (zI iw), .int (zI dg)])), (v9, .inl (cy 0, 188, .inl (upd (zpt v a 0 0) 9 (((zpt v a 0 0) 9) + (v (10 + a))))))] := hD
        refine lv_iload_n hx hb dX6_drops_77 rfl (lv_at hl 0 rfl) ?_
        exact ziret hend hx hb hr hlk hK hP hD hS dX6_drops_78 rfl (by rfl)
      · exact absurd hr0 (by simp [zrT, zlo, c_1, c_2, c_3])
    · replace c_2 := zI0 c_2
      exact absurd hr0 (by simp [zrT, c_1, c_2])
  · replace c_1 := zI0 c_1
    exact absurd ((zic23 ha).symm.trans c_1) (by decide)

abbrev rmX6_drops_rej : Room := { frames := 2, cells := 0, slots := 0, locals := 44 }
set_option maxHeartbeats 4000000 in
set_option maxRecDepth 100000 in
theorem c_X6_drops_rej {G : zG} (hg : zGN G) (l : Launch) (D : va_G) (cy : Nat → ClassId) (x9 : Nat) (th : Int32) (ch : Nat) (era : Int32) (why : Int32) (det : Int32) (cau : Int32) (sv : Bool) (rj : Bool) (v9 : Nat) (b9 : Nat) (s9 : Nat) (k9 : Nat) (p9 : Nat) (t9 : Nat) (n9 : Nat) (tn : Nat) (he : Nat) (en : Nat) (ln : Nat) (iw : Bool) (dg : Bool) (v : Nat → Int32) (a : Nat) (ha : a < 24) (hr0 : ¬ zrT (zlo v) (v 0) a = 0) (hsq : zbok 40 (v 0)) : zM G D vwCl (zT cy) l yX6_drops wsX6_drops rmX6_drops_rej [.ref x9, .int (nI a)] [(x9, .inr (10, [.int th, .int (nI ch), .int era, .int why, .int det, .int cau, .int (zI sv), .int (zI rj), .ref v9, .ref b9, .ref s9, .ref k9, .ref p9, .ref t9, .ref n9, .int (nI tn), .int (nI he), .int (nI en), .int (nI ln), .int (zI iw), .int (zI dg)])), (v9, .inl (cy 0, 188, .inl v))] (some (.int 0)) [(x9, .inr (10, [.int 2, .int (nI ch), .int era, .int (zrT (zlo v) (v 0) a), .int (zdT6 v a), .int 0, .int (zI sv), .int (zI true), .ref v9, .ref b9, .ref s9, .ref k9, .ref p9, .ref t9, .ref n9, .int (nI tn), .int (nI he), .int (nI en), .int (nI ln), .int (zI iw), .int (zI dg)])), (v9, .inl (cy 0, 188, .inl v))] := by
  refine zM_of (cc := cX6_drops) (maxL := 3) (ret := (some .int)) (by decide) rfl (Nat.le_of_ble_eq_true rfl) ?_
  intro p e s m below meth c A Q hend hx hb hml hr hts hown hlk hG hK hP hD hA hS ls hl
  have hown : s.vm.findClass RX6 = some m.cls := hown
  have in_RX6 : ∀ w ∈ u_ws RX6 TX6 21, w ∈ wsX6_drops := by decide +kernel
  have hl : lv_has ls 3 [(0, .ref x9), (1, .int (nI a))] := hl
  refine lv_iload_n hx hb dX6_drops_0 rfl (lv_at hl 1 rfl) ?_
  refine zcS (As := [.int (nI a)]) (rest := []) [] hg.1 ⟨hx, hb, hml, hown, hts⟩ (c_X6_isNeedle hg l D cy (nI a)) (va_cwS 1 hts gX6_drops_X6_isNeedle rfl rfl rfl (by decide +kernel) ⟨Nat.le_of_ble_eq_true rfl, Nat.le_of_ble_eq_true rfl⟩) hG hK hP hD hS hA rfl rfl rfl  rfl hl.1 rfl (Nat.le_of_ble_eq_true rfl) dX6_drops_1 ⟨Nat.zero_le _, Nat.zero_le _⟩ (fun H locs hP hD hS => ?_)
  have hP : va_P D vwCl [(x9, .inr (10, [.int th, .int (nI ch), .int era, .int why, .int det, .int cau, .int (zI sv), .int (zI rj), .ref v9, .ref b9, .ref s9, .ref k9, .ref p9, .ref t9, .ref n9, .int (nI tn), .int (nI he), .int (nI en), .int (nI ln), .int (zI iw), .int (zI dg)])), (v9, .inl (cy 0, 188, .inl v))] H := hP
  have hD : va_D A [(x9, .inr (10, [.int th, .int (nI ch), .int era, .int why, .int det, .int cau, .int (zI sv), .int (zI rj), .ref v9, .ref b9, .ref s9, .ref k9, .ref p9, .ref t9, .ref n9, .int (nI tn), .int (nI he), .int (nI en), .int (nI ln), .int (zI iw), .int (zI dg)])), (v9, .inl (cy 0, 188, .inl v))] := hD
  refine lv_if_ne (tgt := 13) hx hb dX6_drops_4 (by decide) (fun c_1 => ?_) (fun c_1 => ?_)
  · replace c_1 := zI1 c_1
    refine lv_aload_n hx hb dX6_drops_13 rfl (lv_at hl 0 rfl) ?_
    refine lv_iload_n hx hb dX6_drops_14 rfl (lv_at hl 1 rfl) ?_
    refine zcV (As := [.int (nI a)]) (rest := []) [0, 1] 0 hg.1 ⟨hx, hb, hml, hown, hts⟩ (c_X6_isOn hg l D cy x9 th ch era why det cau sv rj v9 b9 s9 k9 p9 t9 n9 tn he en ln iw dg v (nI a)) (cwV 1 hts gX6_drops_X6_isOn rfl rfl rfl (by decide +kernel) ⟨Nat.le_of_ble_eq_true rfl, Nat.le_of_ble_eq_true rfl⟩) hG hK hP hD hS hA rfl rfl rfl rfl rfl rfl hl.1 rfl (Nat.le_of_ble_eq_true rfl) dX6_drops_15 ⟨Nat.zero_le _, Nat.zero_le _⟩ (fun H locs hP hD hS => ?_)
    have hP : va_P D vwCl [(x9, .inr (10, [.int th, .int (nI ch), .int era, .int why, .int det, .int cau, .int (zI sv), .int (zI rj), .ref v9, .ref b9, .ref s9, .ref k9, .ref p9, .ref t9, .ref n9, .int (nI tn), .int (nI he), .int (nI en), .int (nI ln), .int (zI iw), .int (zI dg)])), (v9, .inl (cy 0, 188, .inl v))] H := hP
    have hD : va_D A [(x9, .inr (10, [.int th, .int (nI ch), .int era, .int why, .int det, .int cau, .int (zI sv), .int (zI rj), .ref v9, .ref b9, .ref s9, .ref k9, .ref p9, .ref t9, .ref n9, .int (nI tn), .int (nI he), .int (nI en), .int (nI ln), .int (zI iw), .int (zI dg)])), (v9, .inl (cy 0, 188, .inl v))] := hD
    refine lv_if_ne (tgt := 29) hx hb dX6_drops_18 (by decide) (fun c_2 => ?_) (fun c_2 => ?_)
    · replace c_2 := zI1 c_2
      refine lv_aload_n hx hb dX6_drops_29 rfl (lv_at hl 0 rfl) ?_
      refine va_get (D := D) (ci := 10) (v := .ref v9) (C := RX6) (T := TX6) (N := 21) hx hb hts in_RX6 hown hK hP 0 rfl rfl 8 (by decide) (hts _ (List.mem_of_getElem? (i := 1) rfl)) (fun _ h9 => h9) rfl dX6_drops_30 ?_
      refine lv_bipush (v := 10) hx hb dX6_drops_33 (by decide) ?_
      refine lv_iload_n hx hb dX6_drops_35 rfl (lv_at hl 1 rfl) ?_
      refine lv_iadd hx hb dX6_drops_36 ?_
      refine z_top (y := nI (10 + a)) (nI_add 10 a) ?_
      refine ziald 1 0 (10 + a) hx hb hK hP rfl rfl (by omega) (z_lt rfl) dX6_drops_37 ?_
      refine lv_istore_n (lv' := [(2, .int (v (10 + a))), (0, .ref x9), (1, .int (nI a))]) hx hb dX6_drops_38 rfl hl (by decide) rfl (fun ls hl => ?_)
      refine lv_iload_n hx hb dX6_drops_39 rfl (lv_at hl 0 rfl) ?_
      refine lv_if_ne (tgt := 59) hx hb dX6_drops_40 (by decide) (fun c_3 => ?_) (fun c_3 => ?_)
      · exact absurd (by simp [zrT, zlo, c_1, c_2, c_3]) hr0
      · refine lv_aload_n hx hb dX6_drops_43 rfl (lv_at hl 1 rfl) ?_
        refine lv_iconst (v := 2) hx hb dX6_drops_44 (by decide) ?_
        refine lv_iconst (v := 3) hx hb dX6_drops_45 (by decide) ?_
        refine lv_aload_n hx hb dX6_drops_46 rfl (lv_at hl 1 rfl) ?_
        refine va_get (D := D) (ci := 10) (v := .ref v9) (C := RX6) (T := TX6) (N := 21) hx hb hts in_RX6 hown hK hP 0 rfl rfl 8 (by decide) (hts _ (List.mem_of_getElem? (i := 1) rfl)) (fun _ h9 => h9) rfl dX6_drops_47 ?_
        refine lv_iconst (v := 0) hx hb dX6_drops_50 (by decide) ?_
        refine ziald 1 0 0 hx hb hK hP rfl rfl (by omega) (z_lt rfl) dX6_drops_51 ?_
        refine zcS (As := [.int (v 0)]) (rest := [.int 3, .int 2, .ref x9]) [] hg.1 ⟨hx, hb, hml, hown, hts⟩ (c_X6_bits hg l D cy (v 0) (by first | assumption | omega)) (va_cwS 1 hts gX6_drops_X6_bits rfl rfl rfl (by decide +kernel) ⟨Nat.le_of_ble_eq_true rfl, Nat.le_of_ble_eq_true rfl⟩) hG hK hP hD hS hA rfl rfl rfl  rfl hl.1 rfl (Nat.le_of_ble_eq_true rfl) dX6_drops_52 ⟨Nat.zero_le _, Nat.zero_le _⟩ (fun H locs hP hD hS => ?_)
        have hP : va_P D vwCl [(x9, .inr (10, [.int th, .int (nI ch), .int era, .int why, .int det, .int cau, .int (zI sv), .int (zI rj), .ref v9, .ref b9, .ref s9, .ref k9, .ref p9, .ref t9, .ref n9, .int (nI tn), .int (nI he), .int (nI en), .int (nI ln), .int (zI iw), .int (zI dg)])), (v9, .inl (cy 0, 188, .inl v))] H := hP
        have hD : va_D A [(x9, .inr (10, [.int th, .int (nI ch), .int era, .int why, .int det, .int cau, .int (zI sv), .int (zI rj), .ref v9, .ref b9, .ref s9, .ref k9, .ref p9, .ref t9, .ref n9, .int (nI tn), .int (nI he), .int (nI en), .int (nI ln), .int (zI iw), .int (zI dg)])), (v9, .inl (cy 0, 188, .inl v))] := hD
        refine zcV (As := [.int 2, .int 3, .int (zbc 40 (v 0) 0)]) (rest := []) [0] 0 hg.1 ⟨hx, hb, hml, hown, hts⟩ (c_X6_rejects hg l D cy x9 th ch era why det cau sv rj v9 b9 s9 k9 p9 t9 n9 tn he en ln iw dg 2 3 (zbc 40 (v 0) 0)) (cwV 3 hts gX6_drops_X6_rejects rfl rfl rfl (by decide +kernel) ⟨Nat.le_of_ble_eq_true rfl, Nat.le_of_ble_eq_true rfl⟩) hG hK hP hD hS hA rfl rfl (Eq.trans (b := [x9]) rfl rfl) rfl rfl rfl hl.1 rfl (Nat.le_of_ble_eq_true rfl) dX6_drops_55 ⟨Nat.zero_le _, Nat.zero_le _⟩ (fun H locs hP hD hS => ?_)
        have hP : va_P D vwCl [(x9, .inr (10, [.int 2, .int (nI ch), .int era, .int 3, .int (zbc 40 (v 0) 0), .int 0, .int (zI sv), .int (zI true), .ref v9, .ref b9, .ref s9, .ref k9, .ref p9, .ref t9, .ref n9, .int (nI tn), .int (nI he), .int (nI en), .int (nI ln), .int (zI iw), .int (zI dg)])), (v9, .inl (cy 0, 188, .inl v))] H := hP
        have hD : va_D A [(x9, .inr (10, [.int 2, .int (nI ch), .int era, .int 3, .int (zbc 40 (v 0) 0), .int 0, .int (zI sv), .int (zI true), .ref v9, .ref b9, .ref s9, .ref k9, .ref p9, .ref t9, .ref n9, .int (nI tn), .int (nI he), .int (nI en), .int (nI ln), .int (zI iw), .int (zI dg)])), (v9, .inl (cy 0, 188, .inl v))] := hD
        exact ziret hend hx hb hr hlk hK hP hD hS dX6_drops_58 rfl (by first | (simp only [zrT, zdT6, zlo, c_1, c_2, c_3, decide_true, decide_false, Bool.not_true, Bool.not_false, Bool.and_true, Bool.true_and, Bool.and_false, Bool.false_and, Bool.or_false, Bool.false_or, Bool.or_true, Bool.true_or, ↓reduceIte, Bool.false_eq_true, not_true_eq_false, not_false_eq_true, and_self]; done) | (simp [zrT, zdT6, zlo, c_1, c_2, c_3]; done) | (simp_all [zrT, zdT6, zlo]; done))
    · replace c_2 := zI0 c_2
      refine lv_aload_n hx hb dX6_drops_21 rfl (lv_at hl 0 rfl) ?_
      refine lv_iconst (v := 2) hx hb dX6_drops_22 (by decide) ?_
      refine lv_iconst (v := 2) hx hb dX6_drops_23 (by decide) ?_
      refine lv_iload_n hx hb dX6_drops_24 rfl (lv_at hl 1 rfl) ?_
      refine zcV (As := [.int 2, .int 2, .int (nI a)]) (rest := []) [0] 0 hg.1 ⟨hx, hb, hml, hown, hts⟩ (c_X6_rejects hg l D cy x9 th ch era why det cau sv rj v9 b9 s9 k9 p9 t9 n9 tn he en ln iw dg 2 2 (nI a)) (cwV 3 hts gX6_drops_X6_rejects rfl rfl rfl (by decide +kernel) ⟨Nat.le_of_ble_eq_true rfl, Nat.le_of_ble_eq_true rfl⟩) hG hK hP hD hS hA rfl rfl (Eq.trans (b := [x9]) rfl rfl) rfl rfl rfl hl.1 rfl (Nat.le_of_ble_eq_true rfl) dX6_drops_25 ⟨Nat.zero_le _, Nat.zero_le _⟩ (fun H locs hP hD hS => ?_)
      have hP : va_P D vwCl [(x9, .inr (10, [.int 2, .int (nI ch), .int era, .int 2, .int (nI a), .int 0, .int (zI sv), .int (zI true), .ref v9, .ref b9, .ref s9, .ref k9, .ref p9, .ref t9, .ref n9, .int (nI tn), .int (nI he), .int (nI en), .int (nI ln), .int (zI iw), .int (zI dg)])), (v9, .inl (cy 0, 188, .inl v))] H := hP
      have hD : va_D A [(x9, .inr (10, [.int 2, .int (nI ch), .int era, .int 2, .int (nI a), .int 0, .int (zI sv), .int (zI true), .ref v9, .ref b9, .ref s9, .ref k9, .ref p9, .ref t9, .ref n9, .int (nI tn), .int (nI he), .int (nI en), .int (nI ln), .int (zI iw), .int (zI dg)])), (v9, .inl (cy 0, 188, .inl v))] := hD
      exact ziret hend hx hb hr hlk hK hP hD hS dX6_drops_28 rfl (by first | (simp only [zrT, zdT6, zlo, c_1, c_2, decide_true, decide_false, Bool.not_true, Bool.not_false, Bool.and_true, Bool.true_and, Bool.and_false, Bool.false_and, Bool.or_false, Bool.false_or, Bool.or_true, Bool.true_or, ↓reduceIte, Bool.false_eq_true, not_true_eq_false, not_false_eq_true, and_self]; done) | (simp [zrT, zdT6, zlo, c_1, c_2]; done) | (simp_all [zrT, zdT6, zlo]; done))
  · replace c_1 := zI0 c_1
    exact absurd ((zic23 ha).symm.trans c_1) (by decide)

abbrev rmX6_drops_f1 : Room := { frames := 2, cells := 0, slots := 0, locals := 42 }
set_option maxHeartbeats 4000000 in
set_option maxRecDepth 100000 in
theorem c_X6_drops_f1 {G : zG} (hg : zGN G) (l : Launch) (D : va_G) (cy : Nat → ClassId) (x9 : Nat) (th : Int32) (ch : Nat) (era : Int32) (why : Int32) (det : Int32) (cau : Int32) (sv : Bool) (rj : Bool) (v9 : Nat) (b9 : Nat) (s9 : Nat) (k9 : Nat) (p9 : Nat) (t9 : Nat) (n9 : Nat) (tn : Nat) (he : Nat) (en : Nat) (ln : Nat) (iw : Bool) (dg : Bool) (nq : Int32) (hq : zic 0 23 nq = false) : zM G D vwCl (zT cy) l yX6_drops wsX6_drops rmX6_drops_f1 [.ref x9, .int nq] [(x9, .inr (10, [.int th, .int (nI ch), .int era, .int why, .int det, .int cau, .int (zI sv), .int (zI rj), .ref v9, .ref b9, .ref s9, .ref k9, .ref p9, .ref t9, .ref n9, .int (nI tn), .int (nI he), .int (nI en), .int (nI ln), .int (zI iw), .int (zI dg)]))] (some (.int 0)) [(x9, .inr (10, [.int 1, .int (nI ch), .int era, .int why, .int det, .int cau, .int (zI sv), .int (zI rj), .ref v9, .ref b9, .ref s9, .ref k9, .ref p9, .ref t9, .ref n9, .int (nI tn), .int (nI he), .int (nI en), .int (nI ln), .int (zI iw), .int (zI dg)]))] := by
  refine zM_of (cc := cX6_drops) (maxL := 3) (ret := (some .int)) (by decide) rfl (Nat.le_of_ble_eq_true rfl) ?_
  intro p e s m below meth c A Q hend hx hb hml hr hts hown hlk hG hK hP hD hA hS ls hl
  have hown : s.vm.findClass RX6 = some m.cls := hown
  have hl : lv_has ls 3 [(0, .ref x9), (1, .int nq)] := hl
  refine lv_iload_n hx hb dX6_drops_0 rfl (lv_at hl 1 rfl) ?_
  refine zcS (As := [.int nq]) (rest := []) [] hg.1 ⟨hx, hb, hml, hown, hts⟩ (c_X6_isNeedle hg l D cy nq) (va_cwS 1 hts gX6_drops_X6_isNeedle rfl rfl rfl (by decide +kernel) ⟨Nat.le_of_ble_eq_true rfl, Nat.le_of_ble_eq_true rfl⟩) hG hK hP hD hS hA rfl rfl rfl  rfl hl.1 rfl (Nat.le_of_ble_eq_true rfl) dX6_drops_1 ⟨Nat.zero_le _, Nat.zero_le _⟩ (fun H locs hP hD hS => ?_)
  have hP : va_P D vwCl [(x9, .inr (10, [.int th, .int (nI ch), .int era, .int why, .int det, .int cau, .int (zI sv), .int (zI rj), .ref v9, .ref b9, .ref s9, .ref k9, .ref p9, .ref t9, .ref n9, .int (nI tn), .int (nI he), .int (nI en), .int (nI ln), .int (zI iw), .int (zI dg)]))] H := hP
  have hD : va_D A [(x9, .inr (10, [.int th, .int (nI ch), .int era, .int why, .int det, .int cau, .int (zI sv), .int (zI rj), .ref v9, .ref b9, .ref s9, .ref k9, .ref p9, .ref t9, .ref n9, .int (nI tn), .int (nI he), .int (nI en), .int (nI ln), .int (zI iw), .int (zI dg)]))] := hD
  refine lv_if_ne (tgt := 13) hx hb dX6_drops_4 (by decide) (fun c_1 => ?_) (fun c_1 => ?_)
  · replace c_1 := zI1 c_1
    exact absurd (hq.symm.trans c_1) (by decide)
  · replace c_1 := zI0 c_1
    refine lv_aload_n hx hb dX6_drops_7 rfl (lv_at hl 0 rfl) ?_
    refine lv_iconst (v := 1) hx hb dX6_drops_8 (by decide) ?_
    refine zcV (As := [.int 1]) (rest := []) [0] 0 hg.1 ⟨hx, hb, hml, hown, hts⟩ (c_X6_fail hg l D cy x9 th ch era why det cau sv rj v9 b9 s9 k9 p9 t9 n9 tn he en ln iw dg 1) (cwV 1 hts gX6_drops_X6_fail rfl rfl rfl (by decide +kernel) ⟨Nat.le_of_ble_eq_true rfl, Nat.le_of_ble_eq_true rfl⟩) hG hK hP hD hS hA rfl rfl (Eq.trans (b := [x9]) rfl rfl) rfl rfl rfl hl.1 rfl (Nat.le_of_ble_eq_true rfl) dX6_drops_9 ⟨Nat.zero_le _, Nat.zero_le _⟩ (fun H locs hP hD hS => ?_)
    have hP : va_P D vwCl [(x9, .inr (10, [.int 1, .int (nI ch), .int era, .int why, .int det, .int cau, .int (zI sv), .int (zI rj), .ref v9, .ref b9, .ref s9, .ref k9, .ref p9, .ref t9, .ref n9, .int (nI tn), .int (nI he), .int (nI en), .int (nI ln), .int (zI iw), .int (zI dg)]))] H := hP
    have hD : va_D A [(x9, .inr (10, [.int 1, .int (nI ch), .int era, .int why, .int det, .int cau, .int (zI sv), .int (zI rj), .ref v9, .ref b9, .ref s9, .ref k9, .ref p9, .ref t9, .ref n9, .int (nI tn), .int (nI he), .int (nI en), .int (nI ln), .int (zI iw), .int (zI dg)]))] := hD
    exact ziret hend hx hb hr hlk hK hP hD hS dX6_drops_12 rfl rfl

abbrev rmX6_picks_ok : Room := { frames := 2, cells := 0, slots := 0, locals := 42 }
set_option maxHeartbeats 4000000 in
set_option maxRecDepth 100000 in
theorem c_X6_picks_ok {G : zG} (hg : zGN G) (l : Launch) (D : va_G) (cy : Nat → ClassId) (x9 : Nat) (th : Int32) (ch : Nat) (era : Int32) (why : Int32) (det : Int32) (cau : Int32) (sv : Bool) (rj : Bool) (v9 : Nat) (b9 : Nat) (s9 : Nat) (k9 : Nat) (p9 : Nat) (t9 : Nat) (n9 : Nat) (tn : Nat) (he : Nat) (en : Nat) (ln : Nat) (iw : Bool) (dg : Bool) (v : Nat → Int32) (a : Nat) (ac : Nat) (ha : a < 24) (hv2 : v 2 = nI ac) (hac : ac < 4) (hr0 : zrP6 v ac a = 0) : zM G D vwCl (zT cy) l yX6_picks wsX6_picks rmX6_picks_ok [.ref x9, .int (nI a)] [(x9, .inr (10, [.int th, .int (nI ch), .int era, .int why, .int det, .int cau, .int (zI sv), .int (zI rj), .ref v9, .ref b9, .ref s9, .ref k9, .ref p9, .ref t9, .ref n9, .int (nI tn), .int (nI he), .int (nI en), .int (nI ln), .int (zI iw), .int (zI dg)])), (v9, .inl (cy 0, 188, .inl v))] (some (.int ((upd (upd (zpt v a 1 0) (58 + ac) (zpt v a 1 0 (58 + ac) - 1)) 8 ((upd (zpt v a 1 0) (58 + ac) (zpt v a 1 0 (58 + ac) - 1)) 8 + 1)) (58 + ac)))) [(x9, .inr (10, [.int th, .int (nI ch), .int era, .int why, .int det, .int cau, .int (zI sv), .int (zI rj), .ref v9, .ref b9, .ref s9, .ref k9, .ref p9, .ref t9, .ref n9, .int (nI tn), .int (nI he), .int (nI en), .int (nI ln), .int (zI iw), .int (zI dg)])), (v9, .inl (cy 0, 188, .inl (upd (upd (zpt v a 1 0) (58 + ac) (zpt v a 1 0 (58 + ac) - 1)) 8 ((upd (zpt v a 1 0) (58 + ac) (zpt v a 1 0 (58 + ac) - 1)) 8 + 1))))] := by
  refine zM_of (cc := cX6_picks) (maxL := 2) (ret := (some .int)) (by decide) rfl (Nat.le_of_ble_eq_true rfl) ?_
  intro p e s m below meth c A Q hend hx hb hml hr hts hown hlk hG hK hP hD hA hS ls hl
  have hown : s.vm.findClass RX6 = some m.cls := hown
  have in_RX6 : ∀ w ∈ u_ws RX6 TX6 21, w ∈ wsX6_picks := by decide +kernel
  have hl : lv_has ls 2 [(0, .ref x9), (1, .int (nI a))] := hl
  refine lv_iload_n hx hb dX6_picks_0 rfl (lv_at hl 1 rfl) ?_
  refine zcS (As := [.int (nI a)]) (rest := []) [] hg.1 ⟨hx, hb, hml, hown, hts⟩ (c_X6_isNeedle hg l D cy (nI a)) (va_cwS 1 hts gX6_picks_X6_isNeedle rfl rfl rfl (by decide +kernel) ⟨Nat.le_of_ble_eq_true rfl, Nat.le_of_ble_eq_true rfl⟩) hG hK hP hD hS hA rfl rfl rfl  rfl hl.1 rfl (Nat.le_of_ble_eq_true rfl) dX6_picks_1 ⟨Nat.zero_le _, Nat.zero_le _⟩ (fun H locs hP hD hS => ?_)
  have hP : va_P D vwCl [(x9, .inr (10, [.int th, .int (nI ch), .int era, .int why, .int det, .int cau, .int (zI sv), .int (zI rj), .ref v9, .ref b9, .ref s9, .ref k9, .ref p9, .ref t9, .ref n9, .int (nI tn), .int (nI he), .int (nI en), .int (nI ln), .int (zI iw), .int (zI dg)])), (v9, .inl (cy 0, 188, .inl v))] H := hP
  have hD : va_D A [(x9, .inr (10, [.int th, .int (nI ch), .int era, .int why, .int det, .int cau, .int (zI sv), .int (zI rj), .ref v9, .ref b9, .ref s9, .ref k9, .ref p9, .ref t9, .ref n9, .int (nI tn), .int (nI he), .int (nI en), .int (nI ln), .int (zI iw), .int (zI dg)])), (v9, .inl (cy 0, 188, .inl v))] := hD
  refine lv_if_ne (tgt := 13) hx hb dX6_picks_4 (by decide) (fun c_1 => ?_) (fun c_1 => ?_)
  · replace c_1 := zI1 c_1
    refine lv_aload_n hx hb dX6_picks_13 rfl (lv_at hl 0 rfl) ?_
    refine lv_iload_n hx hb dX6_picks_14 rfl (lv_at hl 1 rfl) ?_
    refine zcV (As := [.int (nI a)]) (rest := []) [0, 1] 0 hg.1 ⟨hx, hb, hml, hown, hts⟩ (c_X6_isOn hg l D cy x9 th ch era why det cau sv rj v9 b9 s9 k9 p9 t9 n9 tn he en ln iw dg v (nI a)) (cwV 1 hts gX6_picks_X6_isOn rfl rfl rfl (by decide +kernel) ⟨Nat.le_of_ble_eq_true rfl, Nat.le_of_ble_eq_true rfl⟩) hG hK hP hD hS hA rfl rfl rfl rfl rfl rfl hl.1 rfl (Nat.le_of_ble_eq_true rfl) dX6_picks_15 ⟨Nat.zero_le _, Nat.zero_le _⟩ (fun H locs hP hD hS => ?_)
    have hP : va_P D vwCl [(x9, .inr (10, [.int th, .int (nI ch), .int era, .int why, .int det, .int cau, .int (zI sv), .int (zI rj), .ref v9, .ref b9, .ref s9, .ref k9, .ref p9, .ref t9, .ref n9, .int (nI tn), .int (nI he), .int (nI en), .int (nI ln), .int (zI iw), .int (zI dg)])), (v9, .inl (cy 0, 188, .inl v))] H := hP
    have hD : va_D A [(x9, .inr (10, [.int th, .int (nI ch), .int era, .int why, .int det, .int cau, .int (zI sv), .int (zI rj), .ref v9, .ref b9, .ref s9, .ref k9, .ref p9, .ref t9, .ref n9, .int (nI tn), .int (nI he), .int (nI en), .int (nI ln), .int (zI iw), .int (zI dg)])), (v9, .inl (cy 0, 188, .inl v))] := hD
    refine lv_if_ne (tgt := 29) hx hb dX6_picks_18 (by decide) (fun c_2 => ?_) (fun c_2 => ?_)
    · replace c_2 := zI1 c_2
      refine lv_aload_n hx hb dX6_picks_29 rfl (lv_at hl 0 rfl) ?_
      refine va_get (D := D) (ci := 10) (v := .ref v9) (C := RX6) (T := TX6) (N := 21) hx hb hts in_RX6 hown hK hP 0 rfl rfl 8 (by decide) (hts _ (List.mem_of_getElem? (i := 1) rfl)) (fun _ h9 => h9) rfl dX6_picks_30 ?_
      refine lv_bipush (v := 10) hx hb dX6_picks_33 (by decide) ?_
      refine lv_iload_n hx hb dX6_picks_35 rfl (lv_at hl 1 rfl) ?_
      refine lv_iadd hx hb dX6_picks_36 ?_
      refine z_top (y := nI (10 + a)) (nI_add 10 a) ?_
      refine ziald 1 0 (10 + a) hx hb hK hP rfl rfl (by omega) (z_lt rfl) dX6_picks_37 ?_
      refine lv_if_le (tgt := 57) hx hb dX6_picks_38 (by decide) (fun c_3 => ?_) (fun c_3 => ?_)
      · refine lv_aload_n hx hb dX6_picks_57 rfl (lv_at hl 0 rfl) ?_
        refine va_get (D := D) (ci := 10) (v := .ref v9) (C := RX6) (T := TX6) (N := 21) hx hb hts in_RX6 hown hK hP 0 rfl rfl 8 (by decide) (hts _ (List.mem_of_getElem? (i := 1) rfl)) (fun _ h9 => h9) rfl dX6_picks_58 ?_
        refine lv_bipush (v := 58) hx hb dX6_picks_61 (by decide) ?_
        refine lv_aload_n hx hb dX6_picks_63 rfl (lv_at hl 0 rfl) ?_
        refine va_get (D := D) (ci := 10) (v := .ref v9) (C := RX6) (T := TX6) (N := 21) hx hb hts in_RX6 hown hK hP 0 rfl rfl 8 (by decide) (hts _ (List.mem_of_getElem? (i := 1) rfl)) (fun _ h9 => h9) rfl dX6_picks_64 ?_
        refine lv_iconst (v := 2) hx hb dX6_picks_67 (by decide) ?_
        refine ziald 1 0 2 hx hb hK hP rfl rfl (by omega) (z_lt rfl) dX6_picks_68 ?_
        refine z_top (y := nI ac) (hv2) ?_
        refine lv_iadd hx hb dX6_picks_69 ?_
        refine z_top (y := nI (58 + ac)) (nI_add 58 ac) ?_
        refine ziald 1 0 (58 + ac) hx hb hK hP rfl rfl (by omega) (z_lt rfl) dX6_picks_70 ?_
        refine lv_if_ne (tgt := 83) hx hb dX6_picks_71 (by decide) (fun c_4 => ?_) (fun c_4 => ?_)
        · refine lv_aload_n hx hb dX6_picks_83 rfl (lv_at hl 0 rfl) ?_
          refine lv_iload_n hx hb dX6_picks_84 rfl (lv_at hl 1 rfl) ?_
          refine lv_iconst (v := 1) hx hb dX6_picks_85 (by decide) ?_
          refine lv_iconst (v := 0) hx hb dX6_picks_86 (by decide) ?_
          refine zcV (As := [.int (nI a), .int 1, .int 0]) (rest := []) [0, 1] 0 hg.1 ⟨hx, hb, hml, hown, hts⟩ (c_X6_puts hg l D cy x9 th ch era why det cau sv rj v9 b9 s9 k9 p9 t9 n9 tn he en ln iw dg v a 1 0 (by first | assumption | omega)) (cwV 3 hts gX6_picks_X6_puts rfl rfl rfl (by decide +kernel) ⟨Nat.le_of_ble_eq_true rfl, Nat.le_of_ble_eq_true rfl⟩) hG hK hP hD hS hA rfl rfl (Eq.trans (b := [x9, v9]) rfl rfl) rfl rfl rfl hl.1 rfl (Nat.le_of_ble_eq_true rfl) dX6_picks_87 ⟨Nat.zero_le _, Nat.zero_le _⟩ (fun H locs hP hD hS => ?_)
          have hP : va_P D vwCl [(x9, .inr (10, [.int th, .int (nI ch), .int era, .int why, .int det, .int cau, .int (zI sv), .int (zI rj), .ref v9, .ref b9, .ref s9, .ref k9, .ref p9, .ref t9, .ref n9, .int (nI tn), .int (nI he), .int (nI en), .int (nI ln), .int (zI iw), .int (zI dg)])), (v9, .inl (cy 0, 188, .inl (zpt v a 1 0)))] H := hP
          have hD : va_D A [(x9, .inr (10, [.int th, .int (nI ch), .int era, .int why, .int det, .int cau, .int (zI sv), .int (zI rj), .ref v9, .ref b9, .ref s9, .ref k9, .ref p9, .ref t9, .ref n9, .int (nI tn), .int (nI he), .int (nI en), .int (nI ln), .int (zI iw), .int (zI dg)])), (v9, .inl (cy 0, 188, .inl (zpt v a 1 0)))] := hD
          refine lv_aload_n hx hb dX6_picks_90 rfl (lv_at hl 0 rfl) ?_
          refine va_get (D := D) (ci := 10) (v := .ref v9) (C := RX6) (T := TX6) (N := 21) hx hb hts in_RX6 hown hK hP 0 rfl rfl 8 (by decide) (hts _ (List.mem_of_getElem? (i := 1) rfl)) (fun _ h9 => h9) rfl dX6_picks_91 ?_
          refine lv_bipush (v := 58) hx hb dX6_picks_94 (by decide) ?_
          refine lv_aload_n hx hb dX6_picks_96 rfl (lv_at hl 0 rfl) ?_
          refine va_get (D := D) (ci := 10) (v := .ref v9) (C := RX6) (T := TX6) (N := 21) hx hb hts in_RX6 hown hK hP 0 rfl rfl 8 (by decide) (hts _ (List.mem_of_getElem? (i := 1) rfl)) (fun _ h9 => h9) rfl dX6_picks_97 ?_
          refine lv_iconst (v := 2) hx hb dX6_picks_100 (by decide) ?_
          refine ziald 1 0 2 hx hb hK hP rfl rfl (by omega) (z_lt rfl) dX6_picks_101 ?_
          refine z_top (y := nI ac) (by rw [zpt_n (by omega) (by omega)]; exact hv2) ?_
          refine lv_iadd hx hb dX6_picks_102 ?_
          refine z_top (y := nI (58 + ac)) (nI_add 58 ac) ?_
          refine lv_dup2_11 hx hb dX6_picks_103 rfl rfl ?_
          refine ziald 1 0 (58 + ac) hx hb hK hP rfl rfl (by omega) (z_lt rfl) dX6_picks_104 ?_
          refine lv_iconst (v := 1) hx hb dX6_picks_105 (by decide) ?_
          refine lv_isub hx hb dX6_picks_106 ?_
          refine ziast 1 0 (58 + ac) hx hb hK hP hD hS rfl rfl (by omega) (z_lt rfl) dX6_picks_107 (fun H locs hP hD hS => ?_)
          have hP : va_P D vwCl [(x9, .inr (10, [.int th, .int (nI ch), .int era, .int why, .int det, .int cau, .int (zI sv), .int (zI rj), .ref v9, .ref b9, .ref s9, .ref k9, .ref p9, .ref t9, .ref n9, .int (nI tn), .int (nI he), .int (nI en), .int (nI ln), .int (zI iw), .int (zI dg)])), (v9, .inl (cy 0, 188, .inl (upd (zpt v a 1 0) (58 + ac) (((zpt v a 1 0) (58 + ac)) - 1))))] H := hP
          have hD : va_D A [(x9, .inr (10, [.int th, .int (nI ch), .int era, .int why, .int det, .int cau, .int (zI sv), .int (zI rj), .ref v9, .ref b9, .ref s9, .ref k9, .ref p9, .ref t9, .ref n9, .int (nI tn), .int (nI he), .int (nI en), .int (nI ln), .int (zI iw), .int (zI dg)])), (v9, .inl (cy 0, 188, .inl (upd (zpt v a 1 0) (58 + ac) (((zpt v a 1 0) (58 + ac)) - 1))))] := hD
          refine lv_aload_n hx hb dX6_picks_108 rfl (lv_at hl 0 rfl) ?_
          refine va_get (D := D) (ci := 10) (v := .ref v9) (C := RX6) (T := TX6) (N := 21) hx hb hts in_RX6 hown hK hP 0 rfl rfl 8 (by decide) (hts _ (List.mem_of_getElem? (i := 1) rfl)) (fun _ h9 => h9) rfl dX6_picks_109 ?_
          refine lv_bipush (v := 8) hx hb dX6_picks_112 (by decide) ?_
          refine lv_dup2_11 hx hb dX6_picks_114 rfl rfl ?_
          refine ziald 1 0 8 hx hb hK hP rfl rfl (by omega) (z_lt rfl) dX6_picks_115 ?_
          refine lv_iconst (v := 1) hx hb dX6_picks_116 (by decide) ?_
          refine lv_iadd hx hb dX6_picks_117 ?_
          refine ziast 1 0 8 hx hb hK hP hD hS rfl rfl (by omega) (z_lt rfl) dX6_picks_118 (fun H locs hP hD hS => ?_)
          have hP : va_P D vwCl [(x9, .inr (10, [.int th, .int (nI ch), .int era, .int why, .int det, .int cau, .int (zI sv), .int (zI rj), .ref v9, .ref b9, .ref s9, .ref k9, .ref p9, .ref t9, .ref n9, .int (nI tn), .int (nI he), .int (nI en), .int (nI ln), .int (zI iw), .int (zI dg)])), (v9, .inl (cy 0, 188, .inl (upd (upd (zpt v a 1 0) (58 + ac) (((zpt v a 1 0) (58 + ac)) - 1)) 8 (((upd (zpt v a 1 0) (58 + ac) (((zpt v a 1 0) (58 + ac)) - 1)) 8) + 1))))] H := hP
          have hD : va_D A [(x9, .inr (10, [.int th, .int (nI ch), .int era, .int why, .int det, .int cau, .int (zI sv), .int (zI rj), .ref v9, .ref b9, .ref s9, .ref k9, .ref p9, .ref t9, .ref n9, .int (nI tn), .int (nI he), .int (nI en), .int (nI ln), .int (zI iw), .int (zI dg)])), (v9, .inl (cy 0, 188, .inl (upd (upd (zpt v a 1 0) (58 + ac) (((zpt v a 1 0) (58 + ac)) - 1)) 8 (((upd (zpt v a 1 0) (58 + ac) (((zpt v a 1 0) (58 + ac)) - 1)) 8) + 1))))] := hD
          refine lv_aload_n hx hb dX6_picks_119 rfl (lv_at hl 0 rfl) ?_
          refine va_get (D := D) (ci := 10) (v := .ref v9) (C := RX6) (T := TX6) (N := 21) hx hb hts in_RX6 hown hK hP 0 rfl rfl 8 (by decide) (hts _ (List.mem_of_getElem? (i := 1) rfl)) (fun _ h9 => h9) rfl dX6_picks_120 ?_
          refine lv_bipush (v := 58) hx hb dX6_picks_123 (by decide) ?_
          refine lv_aload_n hx hb dX6_picks_125 rfl (lv_at hl 0 rfl) ?_
          refine va_get (D := D) (ci := 10) (v := .ref v9) (C := RX6) (T := TX6) (N := 21) hx hb hts in_RX6 hown hK hP 0 rfl rfl 8 (by decide) (hts _ (List.mem_of_getElem? (i := 1) rfl)) (fun _ h9 => h9) rfl dX6_picks_126 ?_
          refine lv_iconst (v := 2) hx hb dX6_picks_129 (by decide) ?_
          refine ziald 1 0 2 hx hb hK hP rfl rfl (by omega) (z_lt rfl) dX6_picks_130 ?_
          refine z_top (y := nI ac) (by rw [show (upd (upd (zpt v a 1 0) (58 + ac) (zpt v a 1 0 (58 + ac) - 1)) 8 ((upd (zpt v a 1 0) (58 + ac) (zpt v a 1 0 (58 + ac) - 1)) 8 + 1)) 2 = v 2 from by simp only [upd]; rw [if_neg (by omega), if_neg (by omega), zpt_n (by omega) (by omega)]]; exact hv2) ?_
          refine lv_iadd hx hb dX6_picks_131 ?_
          refine z_top (y := nI (58 + ac)) (nI_add 58 ac) ?_
          refine ziald 1 0 (58 + ac) hx hb hK hP rfl rfl (by omega) (z_lt rfl) dX6_picks_132 ?_
          exact ziret hend hx hb hr hlk hK hP hD hS dX6_picks_133 (by rfl) (by rfl)
        · exact absurd hr0 (by simp [zrP6, c_1, c_2, c_3, c_4])
      · exact absurd hr0 (by simp [zrP6, c_1, c_2, c_3])
    · replace c_2 := zI0 c_2
      exact absurd hr0 (by simp [zrP6, c_1, c_2])
  · replace c_1 := zI0 c_1
    exact absurd ((zic23 ha).symm.trans c_1) (by decide)

abbrev rmX6_picks_rej : Room := { frames := 2, cells := 0, slots := 0, locals := 44 }
set_option maxHeartbeats 4000000 in
set_option maxRecDepth 100000 in
theorem c_X6_picks_rej {G : zG} (hg : zGN G) (l : Launch) (D : va_G) (cy : Nat → ClassId) (x9 : Nat) (th : Int32) (ch : Nat) (era : Int32) (why : Int32) (det : Int32) (cau : Int32) (sv : Bool) (rj : Bool) (v9 : Nat) (b9 : Nat) (s9 : Nat) (k9 : Nat) (p9 : Nat) (t9 : Nat) (n9 : Nat) (tn : Nat) (he : Nat) (en : Nat) (ln : Nat) (iw : Bool) (dg : Bool) (v : Nat → Int32) (a : Nat) (ac : Nat) (ha : a < 24) (hv2 : v 2 = nI ac) (hac : ac < 4) (hr0 : ¬ zrP6 v ac a = 0) : zM G D vwCl (zT cy) l yX6_picks wsX6_picks rmX6_picks_rej [.ref x9, .int (nI a)] [(x9, .inr (10, [.int th, .int (nI ch), .int era, .int why, .int det, .int cau, .int (zI sv), .int (zI rj), .ref v9, .ref b9, .ref s9, .ref k9, .ref p9, .ref t9, .ref n9, .int (nI tn), .int (nI he), .int (nI en), .int (nI ln), .int (zI iw), .int (zI dg)])), (v9, .inl (cy 0, 188, .inl v))] (some (.int 0)) [(x9, .inr (10, [.int 2, .int (nI ch), .int era, .int (zrP6 v ac a), .int (zdP6 v a), .int 0, .int (zI sv), .int (zI true), .ref v9, .ref b9, .ref s9, .ref k9, .ref p9, .ref t9, .ref n9, .int (nI tn), .int (nI he), .int (nI en), .int (nI ln), .int (zI iw), .int (zI dg)])), (v9, .inl (cy 0, 188, .inl v))] := by
  refine zM_of (cc := cX6_picks) (maxL := 2) (ret := (some .int)) (by decide) rfl (Nat.le_of_ble_eq_true rfl) ?_
  intro p e s m below meth c A Q hend hx hb hml hr hts hown hlk hG hK hP hD hA hS ls hl
  have hown : s.vm.findClass RX6 = some m.cls := hown
  have in_RX6 : ∀ w ∈ u_ws RX6 TX6 21, w ∈ wsX6_picks := by decide +kernel
  have hl : lv_has ls 2 [(0, .ref x9), (1, .int (nI a))] := hl
  refine lv_iload_n hx hb dX6_picks_0 rfl (lv_at hl 1 rfl) ?_
  refine zcS (As := [.int (nI a)]) (rest := []) [] hg.1 ⟨hx, hb, hml, hown, hts⟩ (c_X6_isNeedle hg l D cy (nI a)) (va_cwS 1 hts gX6_picks_X6_isNeedle rfl rfl rfl (by decide +kernel) ⟨Nat.le_of_ble_eq_true rfl, Nat.le_of_ble_eq_true rfl⟩) hG hK hP hD hS hA rfl rfl rfl  rfl hl.1 rfl (Nat.le_of_ble_eq_true rfl) dX6_picks_1 ⟨Nat.zero_le _, Nat.zero_le _⟩ (fun H locs hP hD hS => ?_)
  have hP : va_P D vwCl [(x9, .inr (10, [.int th, .int (nI ch), .int era, .int why, .int det, .int cau, .int (zI sv), .int (zI rj), .ref v9, .ref b9, .ref s9, .ref k9, .ref p9, .ref t9, .ref n9, .int (nI tn), .int (nI he), .int (nI en), .int (nI ln), .int (zI iw), .int (zI dg)])), (v9, .inl (cy 0, 188, .inl v))] H := hP
  have hD : va_D A [(x9, .inr (10, [.int th, .int (nI ch), .int era, .int why, .int det, .int cau, .int (zI sv), .int (zI rj), .ref v9, .ref b9, .ref s9, .ref k9, .ref p9, .ref t9, .ref n9, .int (nI tn), .int (nI he), .int (nI en), .int (nI ln), .int (zI iw), .int (zI dg)])), (v9, .inl (cy 0, 188, .inl v))] := hD
  refine lv_if_ne (tgt := 13) hx hb dX6_picks_4 (by decide) (fun c_1 => ?_) (fun c_1 => ?_)
  · replace c_1 := zI1 c_1
    refine lv_aload_n hx hb dX6_picks_13 rfl (lv_at hl 0 rfl) ?_
    refine lv_iload_n hx hb dX6_picks_14 rfl (lv_at hl 1 rfl) ?_
    refine zcV (As := [.int (nI a)]) (rest := []) [0, 1] 0 hg.1 ⟨hx, hb, hml, hown, hts⟩ (c_X6_isOn hg l D cy x9 th ch era why det cau sv rj v9 b9 s9 k9 p9 t9 n9 tn he en ln iw dg v (nI a)) (cwV 1 hts gX6_picks_X6_isOn rfl rfl rfl (by decide +kernel) ⟨Nat.le_of_ble_eq_true rfl, Nat.le_of_ble_eq_true rfl⟩) hG hK hP hD hS hA rfl rfl rfl rfl rfl rfl hl.1 rfl (Nat.le_of_ble_eq_true rfl) dX6_picks_15 ⟨Nat.zero_le _, Nat.zero_le _⟩ (fun H locs hP hD hS => ?_)
    have hP : va_P D vwCl [(x9, .inr (10, [.int th, .int (nI ch), .int era, .int why, .int det, .int cau, .int (zI sv), .int (zI rj), .ref v9, .ref b9, .ref s9, .ref k9, .ref p9, .ref t9, .ref n9, .int (nI tn), .int (nI he), .int (nI en), .int (nI ln), .int (zI iw), .int (zI dg)])), (v9, .inl (cy 0, 188, .inl v))] H := hP
    have hD : va_D A [(x9, .inr (10, [.int th, .int (nI ch), .int era, .int why, .int det, .int cau, .int (zI sv), .int (zI rj), .ref v9, .ref b9, .ref s9, .ref k9, .ref p9, .ref t9, .ref n9, .int (nI tn), .int (nI he), .int (nI en), .int (nI ln), .int (zI iw), .int (zI dg)])), (v9, .inl (cy 0, 188, .inl v))] := hD
    refine lv_if_ne (tgt := 29) hx hb dX6_picks_18 (by decide) (fun c_2 => ?_) (fun c_2 => ?_)
    · replace c_2 := zI1 c_2
      refine lv_aload_n hx hb dX6_picks_29 rfl (lv_at hl 0 rfl) ?_
      refine va_get (D := D) (ci := 10) (v := .ref v9) (C := RX6) (T := TX6) (N := 21) hx hb hts in_RX6 hown hK hP 0 rfl rfl 8 (by decide) (hts _ (List.mem_of_getElem? (i := 1) rfl)) (fun _ h9 => h9) rfl dX6_picks_30 ?_
      refine lv_bipush (v := 10) hx hb dX6_picks_33 (by decide) ?_
      refine lv_iload_n hx hb dX6_picks_35 rfl (lv_at hl 1 rfl) ?_
      refine lv_iadd hx hb dX6_picks_36 ?_
      refine z_top (y := nI (10 + a)) (nI_add 10 a) ?_
      refine ziald 1 0 (10 + a) hx hb hK hP rfl rfl (by omega) (z_lt rfl) dX6_picks_37 ?_
      refine lv_if_le (tgt := 57) hx hb dX6_picks_38 (by decide) (fun c_3 => ?_) (fun c_3 => ?_)
      · refine lv_aload_n hx hb dX6_picks_57 rfl (lv_at hl 0 rfl) ?_
        refine va_get (D := D) (ci := 10) (v := .ref v9) (C := RX6) (T := TX6) (N := 21) hx hb hts in_RX6 hown hK hP 0 rfl rfl 8 (by decide) (hts _ (List.mem_of_getElem? (i := 1) rfl)) (fun _ h9 => h9) rfl dX6_picks_58 ?_
        refine lv_bipush (v := 58) hx hb dX6_picks_61 (by decide) ?_
        refine lv_aload_n hx hb dX6_picks_63 rfl (lv_at hl 0 rfl) ?_
        refine va_get (D := D) (ci := 10) (v := .ref v9) (C := RX6) (T := TX6) (N := 21) hx hb hts in_RX6 hown hK hP 0 rfl rfl 8 (by decide) (hts _ (List.mem_of_getElem? (i := 1) rfl)) (fun _ h9 => h9) rfl dX6_picks_64 ?_
        refine lv_iconst (v := 2) hx hb dX6_picks_67 (by decide) ?_
        refine ziald 1 0 2 hx hb hK hP rfl rfl (by omega) (z_lt rfl) dX6_picks_68 ?_
        refine z_top (y := nI ac) (hv2) ?_
        refine lv_iadd hx hb dX6_picks_69 ?_
        refine z_top (y := nI (58 + ac)) (nI_add 58 ac) ?_
        refine ziald 1 0 (58 + ac) hx hb hK hP rfl rfl (by omega) (z_lt rfl) dX6_picks_70 ?_
        refine lv_if_ne (tgt := 83) hx hb dX6_picks_71 (by decide) (fun c_4 => ?_) (fun c_4 => ?_)
        · exact absurd (by simp [zrP6, c_1, c_2, c_3, c_4]) hr0
        · refine lv_aload_n hx hb dX6_picks_74 rfl (lv_at hl 0 rfl) ?_
          refine lv_iconst (v := 2) hx hb dX6_picks_75 (by decide) ?_
          refine lv_bipush (v := 10) hx hb dX6_picks_76 (by decide) ?_
          refine lv_iconst (v := 1) hx hb dX6_picks_78 (by decide) ?_
          refine zcV (As := [.int 2, .int 10, .int 1]) (rest := []) [0] 0 hg.1 ⟨hx, hb, hml, hown, hts⟩ (c_X6_rejects hg l D cy x9 th ch era why det cau sv rj v9 b9 s9 k9 p9 t9 n9 tn he en ln iw dg 2 10 1) (cwV 3 hts gX6_picks_X6_rejects rfl rfl rfl (by decide +kernel) ⟨Nat.le_of_ble_eq_true rfl, Nat.le_of_ble_eq_true rfl⟩) hG hK hP hD hS hA rfl rfl (Eq.trans (b := [x9]) rfl rfl) rfl rfl rfl hl.1 rfl (Nat.le_of_ble_eq_true rfl) dX6_picks_79 ⟨Nat.zero_le _, Nat.zero_le _⟩ (fun H locs hP hD hS => ?_)
          have hP : va_P D vwCl [(x9, .inr (10, [.int 2, .int (nI ch), .int era, .int 10, .int 1, .int 0, .int (zI sv), .int (zI true), .ref v9, .ref b9, .ref s9, .ref k9, .ref p9, .ref t9, .ref n9, .int (nI tn), .int (nI he), .int (nI en), .int (nI ln), .int (zI iw), .int (zI dg)])), (v9, .inl (cy 0, 188, .inl v))] H := hP
          have hD : va_D A [(x9, .inr (10, [.int 2, .int (nI ch), .int era, .int 10, .int 1, .int 0, .int (zI sv), .int (zI true), .ref v9, .ref b9, .ref s9, .ref k9, .ref p9, .ref t9, .ref n9, .int (nI tn), .int (nI he), .int (nI en), .int (nI ln), .int (zI iw), .int (zI dg)])), (v9, .inl (cy 0, 188, .inl v))] := hD
          exact ziret hend hx hb hr hlk hK hP hD hS dX6_picks_82 rfl (by first | (simp only [zrP6, zdP6, c_1, c_2, c_3, c_4, decide_true, decide_false, Bool.not_true, Bool.not_false, Bool.and_true, Bool.true_and, Bool.and_false, Bool.false_and, Bool.or_false, Bool.false_or, Bool.or_true, Bool.true_or, ↓reduceIte, Bool.false_eq_true, not_true_eq_false, not_false_eq_true, and_self]; done) | (simp [zrP6, zdP6, c_1, c_2, c_3, c_4]; done) | (simp_all [zrP6, zdP6]; done))
      · refine lv_aload_n hx hb dX6_picks_41 rfl (lv_at hl 0 rfl) ?_
        refine lv_iconst (v := 2) hx hb dX6_picks_42 (by decide) ?_
        refine lv_iconst (v := 4) hx hb dX6_picks_43 (by decide) ?_
        refine lv_aload_n hx hb dX6_picks_44 rfl (lv_at hl 0 rfl) ?_
        refine va_get (D := D) (ci := 10) (v := .ref v9) (C := RX6) (T := TX6) (N := 21) hx hb hts in_RX6 hown hK hP 0 rfl rfl 8 (by decide) (hts _ (List.mem_of_getElem? (i := 1) rfl)) (fun _ h9 => h9) rfl dX6_picks_45 ?_
        refine lv_bipush (v := 10) hx hb dX6_picks_48 (by decide) ?_
        refine lv_iload_n hx hb dX6_picks_50 rfl (lv_at hl 1 rfl) ?_
        refine lv_iadd hx hb dX6_picks_51 ?_
        refine z_top (y := nI (10 + a)) (nI_add 10 a) ?_
        refine ziald 1 0 (10 + a) hx hb hK hP rfl rfl (by omega) (z_lt rfl) dX6_picks_52 ?_
        refine zcV (As := [.int 2, .int 4, .int (v (10 + a))]) (rest := []) [0] 0 hg.1 ⟨hx, hb, hml, hown, hts⟩ (c_X6_rejects hg l D cy x9 th ch era why det cau sv rj v9 b9 s9 k9 p9 t9 n9 tn he en ln iw dg 2 4 (v (10 + a))) (cwV 3 hts gX6_picks_X6_rejects rfl rfl rfl (by decide +kernel) ⟨Nat.le_of_ble_eq_true rfl, Nat.le_of_ble_eq_true rfl⟩) hG hK hP hD hS hA rfl rfl (Eq.trans (b := [x9]) rfl rfl) rfl rfl rfl hl.1 rfl (Nat.le_of_ble_eq_true rfl) dX6_picks_53 ⟨Nat.zero_le _, Nat.zero_le _⟩ (fun H locs hP hD hS => ?_)
        have hP : va_P D vwCl [(x9, .inr (10, [.int 2, .int (nI ch), .int era, .int 4, .int (v (10 + a)), .int 0, .int (zI sv), .int (zI true), .ref v9, .ref b9, .ref s9, .ref k9, .ref p9, .ref t9, .ref n9, .int (nI tn), .int (nI he), .int (nI en), .int (nI ln), .int (zI iw), .int (zI dg)])), (v9, .inl (cy 0, 188, .inl v))] H := hP
        have hD : va_D A [(x9, .inr (10, [.int 2, .int (nI ch), .int era, .int 4, .int (v (10 + a)), .int 0, .int (zI sv), .int (zI true), .ref v9, .ref b9, .ref s9, .ref k9, .ref p9, .ref t9, .ref n9, .int (nI tn), .int (nI he), .int (nI en), .int (nI ln), .int (zI iw), .int (zI dg)])), (v9, .inl (cy 0, 188, .inl v))] := hD
        exact ziret hend hx hb hr hlk hK hP hD hS dX6_picks_56 rfl (by first | (simp only [zrP6, zdP6, c_1, c_2, c_3, decide_true, decide_false, Bool.not_true, Bool.not_false, Bool.and_true, Bool.true_and, Bool.and_false, Bool.false_and, Bool.or_false, Bool.false_or, Bool.or_true, Bool.true_or, ↓reduceIte, Bool.false_eq_true, not_true_eq_false, not_false_eq_true, and_self]; done) | (simp [zrP6, zdP6, c_1, c_2, c_3]; done) | (simp_all [zrP6, zdP6]; done))
    · replace c_2 := zI0 c_2
      refine lv_aload_n hx hb dX6_picks_21 rfl (lv_at hl 0 rfl) ?_
      refine lv_iconst (v := 2) hx hb dX6_picks_22 (by decide) ?_
      refine lv_iconst (v := 2) hx hb dX6_picks_23 (by decide) ?_
      refine lv_iload_n hx hb dX6_picks_24 rfl (lv_at hl 1 rfl) ?_
      refine zcV (As := [.int 2, .int 2, .int (nI a)]) (rest := []) [0] 0 hg.1 ⟨hx, hb, hml, hown, hts⟩ (c_X6_rejects hg l D cy x9 th ch era why det cau sv rj v9 b9 s9 k9 p9 t9 n9 tn he en ln iw dg 2 2 (nI a)) (cwV 3 hts gX6_picks_X6_rejects rfl rfl rfl (by decide +kernel) ⟨Nat.le_of_ble_eq_true rfl, Nat.le_of_ble_eq_true rfl⟩) hG hK hP hD hS hA rfl rfl (Eq.trans (b := [x9]) rfl rfl) rfl rfl rfl hl.1 rfl (Nat.le_of_ble_eq_true rfl) dX6_picks_25 ⟨Nat.zero_le _, Nat.zero_le _⟩ (fun H locs hP hD hS => ?_)
      have hP : va_P D vwCl [(x9, .inr (10, [.int 2, .int (nI ch), .int era, .int 2, .int (nI a), .int 0, .int (zI sv), .int (zI true), .ref v9, .ref b9, .ref s9, .ref k9, .ref p9, .ref t9, .ref n9, .int (nI tn), .int (nI he), .int (nI en), .int (nI ln), .int (zI iw), .int (zI dg)])), (v9, .inl (cy 0, 188, .inl v))] H := hP
      have hD : va_D A [(x9, .inr (10, [.int 2, .int (nI ch), .int era, .int 2, .int (nI a), .int 0, .int (zI sv), .int (zI true), .ref v9, .ref b9, .ref s9, .ref k9, .ref p9, .ref t9, .ref n9, .int (nI tn), .int (nI he), .int (nI en), .int (nI ln), .int (zI iw), .int (zI dg)])), (v9, .inl (cy 0, 188, .inl v))] := hD
      exact ziret hend hx hb hr hlk hK hP hD hS dX6_picks_28 rfl (by first | (simp only [zrP6, zdP6, c_1, c_2, decide_true, decide_false, Bool.not_true, Bool.not_false, Bool.and_true, Bool.true_and, Bool.and_false, Bool.false_and, Bool.or_false, Bool.false_or, Bool.or_true, Bool.true_or, ↓reduceIte, Bool.false_eq_true, not_true_eq_false, not_false_eq_true, and_self]; done) | (simp [zrP6, zdP6, c_1, c_2]; done) | (simp_all [zrP6, zdP6]; done))
  · replace c_1 := zI0 c_1
    exact absurd ((zic23 ha).symm.trans c_1) (by decide)

abbrev rmX6_picks_f1 : Room := { frames := 2, cells := 0, slots := 0, locals := 42 }
set_option maxHeartbeats 4000000 in
set_option maxRecDepth 100000 in
theorem c_X6_picks_f1 {G : zG} (hg : zGN G) (l : Launch) (D : va_G) (cy : Nat → ClassId) (x9 : Nat) (th : Int32) (ch : Nat) (era : Int32) (why : Int32) (det : Int32) (cau : Int32) (sv : Bool) (rj : Bool) (v9 : Nat) (b9 : Nat) (s9 : Nat) (k9 : Nat) (p9 : Nat) (t9 : Nat) (n9 : Nat) (tn : Nat) (he : Nat) (en : Nat) (ln : Nat) (iw : Bool) (dg : Bool) (nq : Int32) (hq : zic 0 23 nq = false) : zM G D vwCl (zT cy) l yX6_picks wsX6_picks rmX6_picks_f1 [.ref x9, .int nq] [(x9, .inr (10, [.int th, .int (nI ch), .int era, .int why, .int det, .int cau, .int (zI sv), .int (zI rj), .ref v9, .ref b9, .ref s9, .ref k9, .ref p9, .ref t9, .ref n9, .int (nI tn), .int (nI he), .int (nI en), .int (nI ln), .int (zI iw), .int (zI dg)]))] (some (.int 0)) [(x9, .inr (10, [.int 1, .int (nI ch), .int era, .int why, .int det, .int cau, .int (zI sv), .int (zI rj), .ref v9, .ref b9, .ref s9, .ref k9, .ref p9, .ref t9, .ref n9, .int (nI tn), .int (nI he), .int (nI en), .int (nI ln), .int (zI iw), .int (zI dg)]))] := by
  refine zM_of (cc := cX6_picks) (maxL := 2) (ret := (some .int)) (by decide) rfl (Nat.le_of_ble_eq_true rfl) ?_
  intro p e s m below meth c A Q hend hx hb hml hr hts hown hlk hG hK hP hD hA hS ls hl
  have hown : s.vm.findClass RX6 = some m.cls := hown
  have hl : lv_has ls 2 [(0, .ref x9), (1, .int nq)] := hl
  refine lv_iload_n hx hb dX6_picks_0 rfl (lv_at hl 1 rfl) ?_
  refine zcS (As := [.int nq]) (rest := []) [] hg.1 ⟨hx, hb, hml, hown, hts⟩ (c_X6_isNeedle hg l D cy nq) (va_cwS 1 hts gX6_picks_X6_isNeedle rfl rfl rfl (by decide +kernel) ⟨Nat.le_of_ble_eq_true rfl, Nat.le_of_ble_eq_true rfl⟩) hG hK hP hD hS hA rfl rfl rfl  rfl hl.1 rfl (Nat.le_of_ble_eq_true rfl) dX6_picks_1 ⟨Nat.zero_le _, Nat.zero_le _⟩ (fun H locs hP hD hS => ?_)
  have hP : va_P D vwCl [(x9, .inr (10, [.int th, .int (nI ch), .int era, .int why, .int det, .int cau, .int (zI sv), .int (zI rj), .ref v9, .ref b9, .ref s9, .ref k9, .ref p9, .ref t9, .ref n9, .int (nI tn), .int (nI he), .int (nI en), .int (nI ln), .int (zI iw), .int (zI dg)]))] H := hP
  have hD : va_D A [(x9, .inr (10, [.int th, .int (nI ch), .int era, .int why, .int det, .int cau, .int (zI sv), .int (zI rj), .ref v9, .ref b9, .ref s9, .ref k9, .ref p9, .ref t9, .ref n9, .int (nI tn), .int (nI he), .int (nI en), .int (nI ln), .int (zI iw), .int (zI dg)]))] := hD
  refine lv_if_ne (tgt := 13) hx hb dX6_picks_4 (by decide) (fun c_1 => ?_) (fun c_1 => ?_)
  · replace c_1 := zI1 c_1
    exact absurd (hq.symm.trans c_1) (by decide)
  · replace c_1 := zI0 c_1
    refine lv_aload_n hx hb dX6_picks_7 rfl (lv_at hl 0 rfl) ?_
    refine lv_iconst (v := 1) hx hb dX6_picks_8 (by decide) ?_
    refine zcV (As := [.int 1]) (rest := []) [0] 0 hg.1 ⟨hx, hb, hml, hown, hts⟩ (c_X6_fail hg l D cy x9 th ch era why det cau sv rj v9 b9 s9 k9 p9 t9 n9 tn he en ln iw dg 1) (cwV 1 hts gX6_picks_X6_fail rfl rfl rfl (by decide +kernel) ⟨Nat.le_of_ble_eq_true rfl, Nat.le_of_ble_eq_true rfl⟩) hG hK hP hD hS hA rfl rfl (Eq.trans (b := [x9]) rfl rfl) rfl rfl rfl hl.1 rfl (Nat.le_of_ble_eq_true rfl) dX6_picks_9 ⟨Nat.zero_le _, Nat.zero_le _⟩ (fun H locs hP hD hS => ?_)
    have hP : va_P D vwCl [(x9, .inr (10, [.int 1, .int (nI ch), .int era, .int why, .int det, .int cau, .int (zI sv), .int (zI rj), .ref v9, .ref b9, .ref s9, .ref k9, .ref p9, .ref t9, .ref n9, .int (nI tn), .int (nI he), .int (nI en), .int (nI ln), .int (zI iw), .int (zI dg)]))] H := hP
    have hD : va_D A [(x9, .inr (10, [.int 1, .int (nI ch), .int era, .int why, .int det, .int cau, .int (zI sv), .int (zI rj), .ref v9, .ref b9, .ref s9, .ref k9, .ref p9, .ref t9, .ref n9, .int (nI tn), .int (nI he), .int (nI en), .int (nI ln), .int (zI iw), .int (zI dg)]))] := hD
    exact ziret hend hx hb hr hlk hK hP hD hS dX6_picks_12 rfl rfl

abbrev rmX6_adds_ok : Room := { frames := 2, cells := 0, slots := 0, locals := 42 }
set_option maxHeartbeats 4000000 in
set_option maxRecDepth 100000 in
theorem c_X6_adds_ok {G : zG} (hg : zGN G) (l : Launch) (D : va_G) (cy : Nat → ClassId) (x9 : Nat) (th : Int32) (ch : Nat) (era : Int32) (why : Int32) (det : Int32) (cau : Int32) (sv : Bool) (rj : Bool) (v9 : Nat) (b9 : Nat) (s9 : Nat) (k9 : Nat) (p9 : Nat) (t9 : Nat) (n9 : Nat) (tn : Nat) (he : Nat) (en : Nat) (ln : Nat) (iw : Bool) (dg : Bool) (v : Nat → Int32) (a : Nat) (u : Int32) (ha : a < 4) (hu : zic 1 99 u = true) (hr0 : zrY (zya v) a u = 0) : zM G D vwCl (zT cy) l yX6_adds wsX6_adds rmX6_adds_ok [.ref x9, .int (nI a), .int u] [(x9, .inr (10, [.int th, .int (nI ch), .int era, .int why, .int det, .int cau, .int (zI sv), .int (zI rj), .ref v9, .ref b9, .ref s9, .ref k9, .ref p9, .ref t9, .ref n9, .int (nI tn), .int (nI he), .int (nI en), .int (nI ln), .int (zI iw), .int (zI dg)])), (v9, .inl (cy 0, 188, .inl v))] (some (.int ((upd (upd v (58 + a) (v (58 + a) + u)) 7 ((upd v (58 + a) (v (58 + a) + u)) 7 + u)) (58 + a)))) [(x9, .inr (10, [.int th, .int (nI ch), .int era, .int why, .int det, .int cau, .int (zI sv), .int (zI rj), .ref v9, .ref b9, .ref s9, .ref k9, .ref p9, .ref t9, .ref n9, .int (nI tn), .int (nI he), .int (nI en), .int (nI ln), .int (zI iw), .int (zI dg)])), (v9, .inl (cy 0, 188, .inl (upd (upd v (58 + a) (v (58 + a) + u)) 7 ((upd v (58 + a) (v (58 + a) + u)) 7 + u))))] := by
  refine zM_of (cc := cX6_adds) (maxL := 3) (ret := (some .int)) (by decide) rfl (Nat.le_of_ble_eq_true rfl) ?_
  intro p e s m below meth c A Q hend hx hb hml hr hts hown hlk hG hK hP hD hA hS ls hl
  have hown : s.vm.findClass RX6 = some m.cls := hown
  have in_RX6 : ∀ w ∈ u_ws RX6 TX6 21, w ∈ wsX6_adds := by decide +kernel
  have hl : lv_has ls 3 [(0, .ref x9), (1, .int (nI a)), (2, .int u)] := hl
  refine lv_iload_n hx hb dX6_adds_0 rfl (lv_at hl 1 rfl) ?_
  refine zcS (As := [.int (nI a)]) (rest := []) [] hg.1 ⟨hx, hb, hml, hown, hts⟩ (c_X6_isFeeder hg l D cy (nI a)) (va_cwS 1 hts gX6_adds_X6_isFeeder rfl rfl rfl (by decide +kernel) ⟨Nat.le_of_ble_eq_true rfl, Nat.le_of_ble_eq_true rfl⟩) hG hK hP hD hS hA rfl rfl rfl  rfl hl.1 rfl (Nat.le_of_ble_eq_true rfl) dX6_adds_1 ⟨Nat.zero_le _, Nat.zero_le _⟩ (fun H locs hP hD hS => ?_)
  have hP : va_P D vwCl [(x9, .inr (10, [.int th, .int (nI ch), .int era, .int why, .int det, .int cau, .int (zI sv), .int (zI rj), .ref v9, .ref b9, .ref s9, .ref k9, .ref p9, .ref t9, .ref n9, .int (nI tn), .int (nI he), .int (nI en), .int (nI ln), .int (zI iw), .int (zI dg)])), (v9, .inl (cy 0, 188, .inl v))] H := hP
  have hD : va_D A [(x9, .inr (10, [.int th, .int (nI ch), .int era, .int why, .int det, .int cau, .int (zI sv), .int (zI rj), .ref v9, .ref b9, .ref s9, .ref k9, .ref p9, .ref t9, .ref n9, .int (nI tn), .int (nI he), .int (nI en), .int (nI ln), .int (zI iw), .int (zI dg)])), (v9, .inl (cy 0, 188, .inl v))] := hD
  refine lv_if_ne (tgt := 13) hx hb dX6_adds_4 (by decide) (fun c_1 => ?_) (fun c_1 => ?_)
  · replace c_1 := zI1 c_1
    refine lv_iload_n hx hb dX6_adds_13 rfl (lv_at hl 2 rfl) ?_
    refine lv_iconst (v := 1) hx hb dX6_adds_14 (by decide) ?_
    refine lv_bipush (v := 99) hx hb dX6_adds_15 (by decide) ?_
    refine zcS (As := [.int u, .int 1, .int 99]) (rest := []) [] hg.1 ⟨hx, hb, hml, hown, hts⟩ (c_X6_isIn hg l D cy u 1 99) (va_cwS 3 hts gX6_adds_X6_isIn rfl rfl rfl (by decide +kernel) ⟨Nat.le_of_ble_eq_true rfl, Nat.le_of_ble_eq_true rfl⟩) hG hK hP hD hS hA rfl rfl rfl  rfl hl.1 rfl (Nat.le_of_ble_eq_true rfl) dX6_adds_17 ⟨Nat.zero_le _, Nat.zero_le _⟩ (fun H locs hP hD hS => ?_)
    have hP : va_P D vwCl [(x9, .inr (10, [.int th, .int (nI ch), .int era, .int why, .int det, .int cau, .int (zI sv), .int (zI rj), .ref v9, .ref b9, .ref s9, .ref k9, .ref p9, .ref t9, .ref n9, .int (nI tn), .int (nI he), .int (nI en), .int (nI ln), .int (zI iw), .int (zI dg)])), (v9, .inl (cy 0, 188, .inl v))] H := hP
    have hD : va_D A [(x9, .inr (10, [.int th, .int (nI ch), .int era, .int why, .int det, .int cau, .int (zI sv), .int (zI rj), .ref v9, .ref b9, .ref s9, .ref k9, .ref p9, .ref t9, .ref n9, .int (nI tn), .int (nI he), .int (nI en), .int (nI ln), .int (zI iw), .int (zI dg)])), (v9, .inl (cy 0, 188, .inl v))] := hD
    refine lv_if_ne (tgt := 29) hx hb dX6_adds_20 (by decide) (fun c_2 => ?_) (fun c_2 => ?_)
    · replace c_2 := zI1 c_2
      refine lv_aload_n hx hb dX6_adds_29 rfl (lv_at hl 0 rfl) ?_
      refine va_get (D := D) (ci := 10) (v := .ref v9) (C := RX6) (T := TX6) (N := 21) hx hb hts in_RX6 hown hK hP 0 rfl rfl 8 (by decide) (hts _ (List.mem_of_getElem? (i := 1) rfl)) (fun _ h9 => h9) rfl dX6_adds_30 ?_
      refine lv_bipush (v := 58) hx hb dX6_adds_33 (by decide) ?_
      refine lv_iload_n hx hb dX6_adds_35 rfl (lv_at hl 1 rfl) ?_
      refine lv_iadd hx hb dX6_adds_36 ?_
      refine z_top (y := nI (58 + a)) (nI_add 58 a) ?_
      refine ziald 1 0 (58 + a) hx hb hK hP rfl rfl (by omega) (z_lt rfl) dX6_adds_37 ?_
      refine lv_iload_n hx hb dX6_adds_38 rfl (lv_at hl 2 rfl) ?_
      refine lv_iadd hx hb dX6_adds_39 ?_
      refine lv_sipush (v := 200) hx hb dX6_adds_40 (by decide) ?_
      refine lv_icmp_le (tgt := 63) hx hb dX6_adds_43 (by decide) (fun c_3 => ?_) (fun c_3 => ?_)
      · refine lv_aload_n hx hb dX6_adds_63 rfl (lv_at hl 0 rfl) ?_
        refine va_get (D := D) (ci := 10) (v := .ref v9) (C := RX6) (T := TX6) (N := 21) hx hb hts in_RX6 hown hK hP 0 rfl rfl 8 (by decide) (hts _ (List.mem_of_getElem? (i := 1) rfl)) (fun _ h9 => h9) rfl dX6_adds_64 ?_
        refine lv_bipush (v := 58) hx hb dX6_adds_67 (by decide) ?_
        refine lv_iload_n hx hb dX6_adds_69 rfl (lv_at hl 1 rfl) ?_
        refine lv_iadd hx hb dX6_adds_70 ?_
        refine z_top (y := nI (58 + a)) (nI_add 58 a) ?_
        refine lv_dup2_11 hx hb dX6_adds_71 rfl rfl ?_
        refine ziald 1 0 (58 + a) hx hb hK hP rfl rfl (by omega) (z_lt rfl) dX6_adds_72 ?_
        refine lv_iload_n hx hb dX6_adds_73 rfl (lv_at hl 2 rfl) ?_
        refine lv_iadd hx hb dX6_adds_74 ?_
        refine ziast 1 0 (58 + a) hx hb hK hP hD hS rfl rfl (by omega) (z_lt rfl) dX6_adds_75 (fun H locs hP hD hS => ?_)
        have hP : va_P D vwCl [(x9, .inr (10, [.int th, .int (nI ch), .int era, .int why, .int det, .int cau, .int (zI sv), .int (zI rj), .ref v9, .ref b9, .ref s9, .ref k9, .ref p9, .ref t9, .ref n9, .int (nI tn), .int (nI he), .int (nI en), .int (nI ln), .int (zI iw), .int (zI dg)])), (v9, .inl (cy 0, 188, .inl (upd v (58 + a) ((v (58 + a)) + u))))] H := hP
        have hD : va_D A [(x9, .inr (10, [.int th, .int (nI ch), .int era, .int why, .int det, .int cau, .int (zI sv), .int (zI rj), .ref v9, .ref b9, .ref s9, .ref k9, .ref p9, .ref t9, .ref n9, .int (nI tn), .int (nI he), .int (nI en), .int (nI ln), .int (zI iw), .int (zI dg)])), (v9, .inl (cy 0, 188, .inl (upd v (58 + a) ((v (58 + a)) + u))))] := hD
        refine lv_aload_n hx hb dX6_adds_76 rfl (lv_at hl 0 rfl) ?_
        refine va_get (D := D) (ci := 10) (v := .ref v9) (C := RX6) (T := TX6) (N := 21) hx hb hts in_RX6 hown hK hP 0 rfl rfl 8 (by decide) (hts _ (List.mem_of_getElem? (i := 1) rfl)) (fun _ h9 => h9) rfl dX6_adds_77 ?_
        refine lv_bipush (v := 7) hx hb dX6_adds_80 (by decide) ?_
        refine lv_dup2_11 hx hb dX6_adds_82 rfl rfl ?_
        refine ziald 1 0 7 hx hb hK hP rfl rfl (by omega) (z_lt rfl) dX6_adds_83 ?_
        refine lv_iload_n hx hb dX6_adds_84 rfl (lv_at hl 2 rfl) ?_
        refine lv_iadd hx hb dX6_adds_85 ?_
        refine ziast 1 0 7 hx hb hK hP hD hS rfl rfl (by omega) (z_lt rfl) dX6_adds_86 (fun H locs hP hD hS => ?_)
        have hP : va_P D vwCl [(x9, .inr (10, [.int th, .int (nI ch), .int era, .int why, .int det, .int cau, .int (zI sv), .int (zI rj), .ref v9, .ref b9, .ref s9, .ref k9, .ref p9, .ref t9, .ref n9, .int (nI tn), .int (nI he), .int (nI en), .int (nI ln), .int (zI iw), .int (zI dg)])), (v9, .inl (cy 0, 188, .inl (upd (upd v (58 + a) ((v (58 + a)) + u)) 7 (((upd v (58 + a) ((v (58 + a)) + u)) 7) + u))))] H := hP
        have hD : va_D A [(x9, .inr (10, [.int th, .int (nI ch), .int era, .int why, .int det, .int cau, .int (zI sv), .int (zI rj), .ref v9, .ref b9, .ref s9, .ref k9, .ref p9, .ref t9, .ref n9, .int (nI tn), .int (nI he), .int (nI en), .int (nI ln), .int (zI iw), .int (zI dg)])), (v9, .inl (cy 0, 188, .inl (upd (upd v (58 + a) ((v (58 + a)) + u)) 7 (((upd v (58 + a) ((v (58 + a)) + u)) 7) + u))))] := hD
        refine lv_aload_n hx hb dX6_adds_87 rfl (lv_at hl 0 rfl) ?_
        refine va_get (D := D) (ci := 10) (v := .ref v9) (C := RX6) (T := TX6) (N := 21) hx hb hts in_RX6 hown hK hP 0 rfl rfl 8 (by decide) (hts _ (List.mem_of_getElem? (i := 1) rfl)) (fun _ h9 => h9) rfl dX6_adds_88 ?_
        refine lv_bipush (v := 58) hx hb dX6_adds_91 (by decide) ?_
        refine lv_iload_n hx hb dX6_adds_93 rfl (lv_at hl 1 rfl) ?_
        refine lv_iadd hx hb dX6_adds_94 ?_
        refine z_top (y := nI (58 + a)) (nI_add 58 a) ?_
        refine ziald 1 0 (58 + a) hx hb hK hP rfl rfl (by omega) (z_lt rfl) dX6_adds_95 ?_
        exact ziret hend hx hb hr hlk hK hP hD hS dX6_adds_96 (by rfl) (by rfl)
      · exact absurd hr0 (by simp [zrY, zya, c_1, c_2, c_3])
    · replace c_2 := zI0 c_2
      exact absurd (hu.symm.trans c_2) (by decide)
  · replace c_1 := zI0 c_1
    exact absurd ((zic3 ha).symm.trans c_1) (by decide)

abbrev rmX6_adds_rej : Room := { frames := 2, cells := 0, slots := 0, locals := 44 }
set_option maxHeartbeats 4000000 in
set_option maxRecDepth 100000 in
theorem c_X6_adds_rej {G : zG} (hg : zGN G) (l : Launch) (D : va_G) (cy : Nat → ClassId) (x9 : Nat) (th : Int32) (ch : Nat) (era : Int32) (why : Int32) (det : Int32) (cau : Int32) (sv : Bool) (rj : Bool) (v9 : Nat) (b9 : Nat) (s9 : Nat) (k9 : Nat) (p9 : Nat) (t9 : Nat) (n9 : Nat) (tn : Nat) (he : Nat) (en : Nat) (ln : Nat) (iw : Bool) (dg : Bool) (v : Nat → Int32) (a : Nat) (u : Int32) (ha : a < 4) (hu : zic 1 99 u = true) (hr0 : ¬ zrY (zya v) a u = 0) : zM G D vwCl (zT cy) l yX6_adds wsX6_adds rmX6_adds_rej [.ref x9, .int (nI a), .int u] [(x9, .inr (10, [.int th, .int (nI ch), .int era, .int why, .int det, .int cau, .int (zI sv), .int (zI rj), .ref v9, .ref b9, .ref s9, .ref k9, .ref p9, .ref t9, .ref n9, .int (nI tn), .int (nI he), .int (nI en), .int (nI ln), .int (zI iw), .int (zI dg)])), (v9, .inl (cy 0, 188, .inl v))] (some (.int 0)) [(x9, .inr (10, [.int 3, .int (nI ch), .int era, .int (zrY (zya v) a u), .int (v (58 + a)), .int 0, .int (zI sv), .int (zI true), .ref v9, .ref b9, .ref s9, .ref k9, .ref p9, .ref t9, .ref n9, .int (nI tn), .int (nI he), .int (nI en), .int (nI ln), .int (zI iw), .int (zI dg)])), (v9, .inl (cy 0, 188, .inl v))] := by
  refine zM_of (cc := cX6_adds) (maxL := 3) (ret := (some .int)) (by decide) rfl (Nat.le_of_ble_eq_true rfl) ?_
  intro p e s m below meth c A Q hend hx hb hml hr hts hown hlk hG hK hP hD hA hS ls hl
  have hown : s.vm.findClass RX6 = some m.cls := hown
  have in_RX6 : ∀ w ∈ u_ws RX6 TX6 21, w ∈ wsX6_adds := by decide +kernel
  have hl : lv_has ls 3 [(0, .ref x9), (1, .int (nI a)), (2, .int u)] := hl
  refine lv_iload_n hx hb dX6_adds_0 rfl (lv_at hl 1 rfl) ?_
  refine zcS (As := [.int (nI a)]) (rest := []) [] hg.1 ⟨hx, hb, hml, hown, hts⟩ (c_X6_isFeeder hg l D cy (nI a)) (va_cwS 1 hts gX6_adds_X6_isFeeder rfl rfl rfl (by decide +kernel) ⟨Nat.le_of_ble_eq_true rfl, Nat.le_of_ble_eq_true rfl⟩) hG hK hP hD hS hA rfl rfl rfl  rfl hl.1 rfl (Nat.le_of_ble_eq_true rfl) dX6_adds_1 ⟨Nat.zero_le _, Nat.zero_le _⟩ (fun H locs hP hD hS => ?_)
  have hP : va_P D vwCl [(x9, .inr (10, [.int th, .int (nI ch), .int era, .int why, .int det, .int cau, .int (zI sv), .int (zI rj), .ref v9, .ref b9, .ref s9, .ref k9, .ref p9, .ref t9, .ref n9, .int (nI tn), .int (nI he), .int (nI en), .int (nI ln), .int (zI iw), .int (zI dg)])), (v9, .inl (cy 0, 188, .inl v))] H := hP
  have hD : va_D A [(x9, .inr (10, [.int th, .int (nI ch), .int era, .int why, .int det, .int cau, .int (zI sv), .int (zI rj), .ref v9, .ref b9, .ref s9, .ref k9, .ref p9, .ref t9, .ref n9, .int (nI tn), .int (nI he), .int (nI en), .int (nI ln), .int (zI iw), .int (zI dg)])), (v9, .inl (cy 0, 188, .inl v))] := hD
  refine lv_if_ne (tgt := 13) hx hb dX6_adds_4 (by decide) (fun c_1 => ?_) (fun c_1 => ?_)
  · replace c_1 := zI1 c_1
    refine lv_iload_n hx hb dX6_adds_13 rfl (lv_at hl 2 rfl) ?_
    refine lv_iconst (v := 1) hx hb dX6_adds_14 (by decide) ?_
    refine lv_bipush (v := 99) hx hb dX6_adds_15 (by decide) ?_
    refine zcS (As := [.int u, .int 1, .int 99]) (rest := []) [] hg.1 ⟨hx, hb, hml, hown, hts⟩ (c_X6_isIn hg l D cy u 1 99) (va_cwS 3 hts gX6_adds_X6_isIn rfl rfl rfl (by decide +kernel) ⟨Nat.le_of_ble_eq_true rfl, Nat.le_of_ble_eq_true rfl⟩) hG hK hP hD hS hA rfl rfl rfl  rfl hl.1 rfl (Nat.le_of_ble_eq_true rfl) dX6_adds_17 ⟨Nat.zero_le _, Nat.zero_le _⟩ (fun H locs hP hD hS => ?_)
    have hP : va_P D vwCl [(x9, .inr (10, [.int th, .int (nI ch), .int era, .int why, .int det, .int cau, .int (zI sv), .int (zI rj), .ref v9, .ref b9, .ref s9, .ref k9, .ref p9, .ref t9, .ref n9, .int (nI tn), .int (nI he), .int (nI en), .int (nI ln), .int (zI iw), .int (zI dg)])), (v9, .inl (cy 0, 188, .inl v))] H := hP
    have hD : va_D A [(x9, .inr (10, [.int th, .int (nI ch), .int era, .int why, .int det, .int cau, .int (zI sv), .int (zI rj), .ref v9, .ref b9, .ref s9, .ref k9, .ref p9, .ref t9, .ref n9, .int (nI tn), .int (nI he), .int (nI en), .int (nI ln), .int (zI iw), .int (zI dg)])), (v9, .inl (cy 0, 188, .inl v))] := hD
    refine lv_if_ne (tgt := 29) hx hb dX6_adds_20 (by decide) (fun c_2 => ?_) (fun c_2 => ?_)
    · replace c_2 := zI1 c_2
      refine lv_aload_n hx hb dX6_adds_29 rfl (lv_at hl 0 rfl) ?_
      refine va_get (D := D) (ci := 10) (v := .ref v9) (C := RX6) (T := TX6) (N := 21) hx hb hts in_RX6 hown hK hP 0 rfl rfl 8 (by decide) (hts _ (List.mem_of_getElem? (i := 1) rfl)) (fun _ h9 => h9) rfl dX6_adds_30 ?_
      refine lv_bipush (v := 58) hx hb dX6_adds_33 (by decide) ?_
      refine lv_iload_n hx hb dX6_adds_35 rfl (lv_at hl 1 rfl) ?_
      refine lv_iadd hx hb dX6_adds_36 ?_
      refine z_top (y := nI (58 + a)) (nI_add 58 a) ?_
      refine ziald 1 0 (58 + a) hx hb hK hP rfl rfl (by omega) (z_lt rfl) dX6_adds_37 ?_
      refine lv_iload_n hx hb dX6_adds_38 rfl (lv_at hl 2 rfl) ?_
      refine lv_iadd hx hb dX6_adds_39 ?_
      refine lv_sipush (v := 200) hx hb dX6_adds_40 (by decide) ?_
      refine lv_icmp_le (tgt := 63) hx hb dX6_adds_43 (by decide) (fun c_3 => ?_) (fun c_3 => ?_)
      · exact absurd (by simp [zrY, zya, c_1, c_2, c_3]) hr0
      · refine lv_aload_n hx hb dX6_adds_46 rfl (lv_at hl 0 rfl) ?_
        refine lv_iconst (v := 3) hx hb dX6_adds_47 (by decide) ?_
        refine lv_bipush (v := 11) hx hb dX6_adds_48 (by decide) ?_
        refine lv_aload_n hx hb dX6_adds_50 rfl (lv_at hl 0 rfl) ?_
        refine va_get (D := D) (ci := 10) (v := .ref v9) (C := RX6) (T := TX6) (N := 21) hx hb hts in_RX6 hown hK hP 0 rfl rfl 8 (by decide) (hts _ (List.mem_of_getElem? (i := 1) rfl)) (fun _ h9 => h9) rfl dX6_adds_51 ?_
        refine lv_bipush (v := 58) hx hb dX6_adds_54 (by decide) ?_
        refine lv_iload_n hx hb dX6_adds_56 rfl (lv_at hl 1 rfl) ?_
        refine lv_iadd hx hb dX6_adds_57 ?_
        refine z_top (y := nI (58 + a)) (nI_add 58 a) ?_
        refine ziald 1 0 (58 + a) hx hb hK hP rfl rfl (by omega) (z_lt rfl) dX6_adds_58 ?_
        refine zcV (As := [.int 3, .int 11, .int (v (58 + a))]) (rest := []) [0] 0 hg.1 ⟨hx, hb, hml, hown, hts⟩ (c_X6_rejects hg l D cy x9 th ch era why det cau sv rj v9 b9 s9 k9 p9 t9 n9 tn he en ln iw dg 3 11 (v (58 + a))) (cwV 3 hts gX6_adds_X6_rejects rfl rfl rfl (by decide +kernel) ⟨Nat.le_of_ble_eq_true rfl, Nat.le_of_ble_eq_true rfl⟩) hG hK hP hD hS hA rfl rfl (Eq.trans (b := [x9]) rfl rfl) rfl rfl rfl hl.1 rfl (Nat.le_of_ble_eq_true rfl) dX6_adds_59 ⟨Nat.zero_le _, Nat.zero_le _⟩ (fun H locs hP hD hS => ?_)
        have hP : va_P D vwCl [(x9, .inr (10, [.int 3, .int (nI ch), .int era, .int 11, .int (v (58 + a)), .int 0, .int (zI sv), .int (zI true), .ref v9, .ref b9, .ref s9, .ref k9, .ref p9, .ref t9, .ref n9, .int (nI tn), .int (nI he), .int (nI en), .int (nI ln), .int (zI iw), .int (zI dg)])), (v9, .inl (cy 0, 188, .inl v))] H := hP
        have hD : va_D A [(x9, .inr (10, [.int 3, .int (nI ch), .int era, .int 11, .int (v (58 + a)), .int 0, .int (zI sv), .int (zI true), .ref v9, .ref b9, .ref s9, .ref k9, .ref p9, .ref t9, .ref n9, .int (nI tn), .int (nI he), .int (nI en), .int (nI ln), .int (zI iw), .int (zI dg)])), (v9, .inl (cy 0, 188, .inl v))] := hD
        exact ziret hend hx hb hr hlk hK hP hD hS dX6_adds_62 rfl (by first | (simp only [zrY, zya, c_1, c_2, c_3, decide_true, decide_false, Bool.not_true, Bool.not_false, Bool.and_true, Bool.true_and, Bool.and_false, Bool.false_and, Bool.or_false, Bool.false_or, Bool.or_true, Bool.true_or, ↓reduceIte, Bool.false_eq_true, not_true_eq_false, not_false_eq_true, and_self]; done) | (simp [zrY, zya, c_1, c_2, c_3]; done) | (simp_all [zrY, zya]; done))
    · replace c_2 := zI0 c_2
      exact absurd (hu.symm.trans c_2) (by decide)
  · replace c_1 := zI0 c_1
    exact absurd ((zic3 ha).symm.trans c_1) (by decide)

abbrev rmX6_adds_f1 : Room := { frames := 2, cells := 0, slots := 0, locals := 42 }
set_option maxHeartbeats 4000000 in
set_option maxRecDepth 100000 in
theorem c_X6_adds_f1 {G : zG} (hg : zGN G) (l : Launch) (D : va_G) (cy : Nat → ClassId) (x9 : Nat) (th : Int32) (ch : Nat) (era : Int32) (why : Int32) (det : Int32) (cau : Int32) (sv : Bool) (rj : Bool) (v9 : Nat) (b9 : Nat) (s9 : Nat) (k9 : Nat) (p9 : Nat) (t9 : Nat) (n9 : Nat) (tn : Nat) (he : Nat) (en : Nat) (ln : Nat) (iw : Bool) (dg : Bool) (nq : Int32) (u : Int32) (hq : zic 0 3 nq = false) : zM G D vwCl (zT cy) l yX6_adds wsX6_adds rmX6_adds_f1 [.ref x9, .int nq, .int u] [(x9, .inr (10, [.int th, .int (nI ch), .int era, .int why, .int det, .int cau, .int (zI sv), .int (zI rj), .ref v9, .ref b9, .ref s9, .ref k9, .ref p9, .ref t9, .ref n9, .int (nI tn), .int (nI he), .int (nI en), .int (nI ln), .int (zI iw), .int (zI dg)]))] (some (.int 0)) [(x9, .inr (10, [.int 1, .int (nI ch), .int era, .int why, .int det, .int cau, .int (zI sv), .int (zI rj), .ref v9, .ref b9, .ref s9, .ref k9, .ref p9, .ref t9, .ref n9, .int (nI tn), .int (nI he), .int (nI en), .int (nI ln), .int (zI iw), .int (zI dg)]))] := by
  refine zM_of (cc := cX6_adds) (maxL := 3) (ret := (some .int)) (by decide) rfl (Nat.le_of_ble_eq_true rfl) ?_
  intro p e s m below meth c A Q hend hx hb hml hr hts hown hlk hG hK hP hD hA hS ls hl
  have hown : s.vm.findClass RX6 = some m.cls := hown
  have hl : lv_has ls 3 [(0, .ref x9), (1, .int nq), (2, .int u)] := hl
  refine lv_iload_n hx hb dX6_adds_0 rfl (lv_at hl 1 rfl) ?_
  refine zcS (As := [.int nq]) (rest := []) [] hg.1 ⟨hx, hb, hml, hown, hts⟩ (c_X6_isFeeder hg l D cy nq) (va_cwS 1 hts gX6_adds_X6_isFeeder rfl rfl rfl (by decide +kernel) ⟨Nat.le_of_ble_eq_true rfl, Nat.le_of_ble_eq_true rfl⟩) hG hK hP hD hS hA rfl rfl rfl  rfl hl.1 rfl (Nat.le_of_ble_eq_true rfl) dX6_adds_1 ⟨Nat.zero_le _, Nat.zero_le _⟩ (fun H locs hP hD hS => ?_)
  have hP : va_P D vwCl [(x9, .inr (10, [.int th, .int (nI ch), .int era, .int why, .int det, .int cau, .int (zI sv), .int (zI rj), .ref v9, .ref b9, .ref s9, .ref k9, .ref p9, .ref t9, .ref n9, .int (nI tn), .int (nI he), .int (nI en), .int (nI ln), .int (zI iw), .int (zI dg)]))] H := hP
  have hD : va_D A [(x9, .inr (10, [.int th, .int (nI ch), .int era, .int why, .int det, .int cau, .int (zI sv), .int (zI rj), .ref v9, .ref b9, .ref s9, .ref k9, .ref p9, .ref t9, .ref n9, .int (nI tn), .int (nI he), .int (nI en), .int (nI ln), .int (zI iw), .int (zI dg)]))] := hD
  refine lv_if_ne (tgt := 13) hx hb dX6_adds_4 (by decide) (fun c_1 => ?_) (fun c_1 => ?_)
  · replace c_1 := zI1 c_1
    exact absurd (hq.symm.trans c_1) (by decide)
  · replace c_1 := zI0 c_1
    refine lv_aload_n hx hb dX6_adds_7 rfl (lv_at hl 0 rfl) ?_
    refine lv_iconst (v := 1) hx hb dX6_adds_8 (by decide) ?_
    refine zcV (As := [.int 1]) (rest := []) [0] 0 hg.1 ⟨hx, hb, hml, hown, hts⟩ (c_X6_fail hg l D cy x9 th ch era why det cau sv rj v9 b9 s9 k9 p9 t9 n9 tn he en ln iw dg 1) (cwV 1 hts gX6_adds_X6_fail rfl rfl rfl (by decide +kernel) ⟨Nat.le_of_ble_eq_true rfl, Nat.le_of_ble_eq_true rfl⟩) hG hK hP hD hS hA rfl rfl (Eq.trans (b := [x9]) rfl rfl) rfl rfl rfl hl.1 rfl (Nat.le_of_ble_eq_true rfl) dX6_adds_9 ⟨Nat.zero_le _, Nat.zero_le _⟩ (fun H locs hP hD hS => ?_)
    have hP : va_P D vwCl [(x9, .inr (10, [.int 1, .int (nI ch), .int era, .int why, .int det, .int cau, .int (zI sv), .int (zI rj), .ref v9, .ref b9, .ref s9, .ref k9, .ref p9, .ref t9, .ref n9, .int (nI tn), .int (nI he), .int (nI en), .int (nI ln), .int (zI iw), .int (zI dg)]))] H := hP
    have hD : va_D A [(x9, .inr (10, [.int 1, .int (nI ch), .int era, .int why, .int det, .int cau, .int (zI sv), .int (zI rj), .ref v9, .ref b9, .ref s9, .ref k9, .ref p9, .ref t9, .ref n9, .int (nI tn), .int (nI he), .int (nI en), .int (nI ln), .int (zI iw), .int (zI dg)]))] := hD
    exact ziret hend hx hb hr hlk hK hP hD hS dX6_adds_12 rfl rfl

abbrev rmX6_adds_f2 : Room := { frames := 2, cells := 0, slots := 0, locals := 42 }
set_option maxHeartbeats 4000000 in
set_option maxRecDepth 100000 in
theorem c_X6_adds_f2 {G : zG} (hg : zGN G) (l : Launch) (D : va_G) (cy : Nat → ClassId) (x9 : Nat) (th : Int32) (ch : Nat) (era : Int32) (why : Int32) (det : Int32) (cau : Int32) (sv : Bool) (rj : Bool) (v9 : Nat) (b9 : Nat) (s9 : Nat) (k9 : Nat) (p9 : Nat) (t9 : Nat) (n9 : Nat) (tn : Nat) (he : Nat) (en : Nat) (ln : Nat) (iw : Bool) (dg : Bool) (a : Nat) (u : Int32) (ha : a < 4) (hu : zic 1 99 u = false) : zM G D vwCl (zT cy) l yX6_adds wsX6_adds rmX6_adds_f2 [.ref x9, .int (nI a), .int u] [(x9, .inr (10, [.int th, .int (nI ch), .int era, .int why, .int det, .int cau, .int (zI sv), .int (zI rj), .ref v9, .ref b9, .ref s9, .ref k9, .ref p9, .ref t9, .ref n9, .int (nI tn), .int (nI he), .int (nI en), .int (nI ln), .int (zI iw), .int (zI dg)]))] (some (.int 0)) [(x9, .inr (10, [.int 2, .int (nI ch), .int era, .int why, .int det, .int cau, .int (zI sv), .int (zI rj), .ref v9, .ref b9, .ref s9, .ref k9, .ref p9, .ref t9, .ref n9, .int (nI tn), .int (nI he), .int (nI en), .int (nI ln), .int (zI iw), .int (zI dg)]))] := by
  refine zM_of (cc := cX6_adds) (maxL := 3) (ret := (some .int)) (by decide) rfl (Nat.le_of_ble_eq_true rfl) ?_
  intro p e s m below meth c A Q hend hx hb hml hr hts hown hlk hG hK hP hD hA hS ls hl
  have hown : s.vm.findClass RX6 = some m.cls := hown
  have hl : lv_has ls 3 [(0, .ref x9), (1, .int (nI a)), (2, .int u)] := hl
  refine lv_iload_n hx hb dX6_adds_0 rfl (lv_at hl 1 rfl) ?_
  refine zcS (As := [.int (nI a)]) (rest := []) [] hg.1 ⟨hx, hb, hml, hown, hts⟩ (c_X6_isFeeder hg l D cy (nI a)) (va_cwS 1 hts gX6_adds_X6_isFeeder rfl rfl rfl (by decide +kernel) ⟨Nat.le_of_ble_eq_true rfl, Nat.le_of_ble_eq_true rfl⟩) hG hK hP hD hS hA rfl rfl rfl  rfl hl.1 rfl (Nat.le_of_ble_eq_true rfl) dX6_adds_1 ⟨Nat.zero_le _, Nat.zero_le _⟩ (fun H locs hP hD hS => ?_)
  have hP : va_P D vwCl [(x9, .inr (10, [.int th, .int (nI ch), .int era, .int why, .int det, .int cau, .int (zI sv), .int (zI rj), .ref v9, .ref b9, .ref s9, .ref k9, .ref p9, .ref t9, .ref n9, .int (nI tn), .int (nI he), .int (nI en), .int (nI ln), .int (zI iw), .int (zI dg)]))] H := hP
  have hD : va_D A [(x9, .inr (10, [.int th, .int (nI ch), .int era, .int why, .int det, .int cau, .int (zI sv), .int (zI rj), .ref v9, .ref b9, .ref s9, .ref k9, .ref p9, .ref t9, .ref n9, .int (nI tn), .int (nI he), .int (nI en), .int (nI ln), .int (zI iw), .int (zI dg)]))] := hD
  refine lv_if_ne (tgt := 13) hx hb dX6_adds_4 (by decide) (fun c_1 => ?_) (fun c_1 => ?_)
  · replace c_1 := zI1 c_1
    refine lv_iload_n hx hb dX6_adds_13 rfl (lv_at hl 2 rfl) ?_
    refine lv_iconst (v := 1) hx hb dX6_adds_14 (by decide) ?_
    refine lv_bipush (v := 99) hx hb dX6_adds_15 (by decide) ?_
    refine zcS (As := [.int u, .int 1, .int 99]) (rest := []) [] hg.1 ⟨hx, hb, hml, hown, hts⟩ (c_X6_isIn hg l D cy u 1 99) (va_cwS 3 hts gX6_adds_X6_isIn rfl rfl rfl (by decide +kernel) ⟨Nat.le_of_ble_eq_true rfl, Nat.le_of_ble_eq_true rfl⟩) hG hK hP hD hS hA rfl rfl rfl  rfl hl.1 rfl (Nat.le_of_ble_eq_true rfl) dX6_adds_17 ⟨Nat.zero_le _, Nat.zero_le _⟩ (fun H locs hP hD hS => ?_)
    have hP : va_P D vwCl [(x9, .inr (10, [.int th, .int (nI ch), .int era, .int why, .int det, .int cau, .int (zI sv), .int (zI rj), .ref v9, .ref b9, .ref s9, .ref k9, .ref p9, .ref t9, .ref n9, .int (nI tn), .int (nI he), .int (nI en), .int (nI ln), .int (zI iw), .int (zI dg)]))] H := hP
    have hD : va_D A [(x9, .inr (10, [.int th, .int (nI ch), .int era, .int why, .int det, .int cau, .int (zI sv), .int (zI rj), .ref v9, .ref b9, .ref s9, .ref k9, .ref p9, .ref t9, .ref n9, .int (nI tn), .int (nI he), .int (nI en), .int (nI ln), .int (zI iw), .int (zI dg)]))] := hD
    refine lv_if_ne (tgt := 29) hx hb dX6_adds_20 (by decide) (fun c_2 => ?_) (fun c_2 => ?_)
    · replace c_2 := zI1 c_2
      exact absurd (hu.symm.trans c_2) (by decide)
    · replace c_2 := zI0 c_2
      refine lv_aload_n hx hb dX6_adds_23 rfl (lv_at hl 0 rfl) ?_
      refine lv_iconst (v := 2) hx hb dX6_adds_24 (by decide) ?_
      refine zcV (As := [.int 2]) (rest := []) [0] 0 hg.1 ⟨hx, hb, hml, hown, hts⟩ (c_X6_fail hg l D cy x9 th ch era why det cau sv rj v9 b9 s9 k9 p9 t9 n9 tn he en ln iw dg 2) (cwV 1 hts gX6_adds_X6_fail rfl rfl rfl (by decide +kernel) ⟨Nat.le_of_ble_eq_true rfl, Nat.le_of_ble_eq_true rfl⟩) hG hK hP hD hS hA rfl rfl (Eq.trans (b := [x9]) rfl rfl) rfl rfl rfl hl.1 rfl (Nat.le_of_ble_eq_true rfl) dX6_adds_25 ⟨Nat.zero_le _, Nat.zero_le _⟩ (fun H locs hP hD hS => ?_)
      have hP : va_P D vwCl [(x9, .inr (10, [.int 2, .int (nI ch), .int era, .int why, .int det, .int cau, .int (zI sv), .int (zI rj), .ref v9, .ref b9, .ref s9, .ref k9, .ref p9, .ref t9, .ref n9, .int (nI tn), .int (nI he), .int (nI en), .int (nI ln), .int (zI iw), .int (zI dg)]))] H := hP
      have hD : va_D A [(x9, .inr (10, [.int 2, .int (nI ch), .int era, .int why, .int det, .int cau, .int (zI sv), .int (zI rj), .ref v9, .ref b9, .ref s9, .ref k9, .ref p9, .ref t9, .ref n9, .int (nI tn), .int (nI he), .int (nI en), .int (nI ln), .int (zI iw), .int (zI dg)]))] := hD
      exact ziret hend hx hb hr hlk hK hP hD hS dX6_adds_28 rfl rfl
  · replace c_1 := zI0 c_1
    exact absurd ((zic3 ha).symm.trans c_1) (by decide)

abbrev rmX6_selects_ok : Room := { frames := 2, cells := 0, slots := 0, locals := 42 }
set_option maxHeartbeats 4000000 in
set_option maxRecDepth 100000 in
theorem c_X6_selects_ok {G : zG} (hg : zGN G) (l : Launch) (D : va_G) (cy : Nat → ClassId) (x9 : Nat) (th : Int32) (ch : Nat) (era : Int32) (why : Int32) (det : Int32) (cau : Int32) (sv : Bool) (rj : Bool) (v9 : Nat) (b9 : Nat) (s9 : Nat) (k9 : Nat) (p9 : Nat) (t9 : Nat) (n9 : Nat) (tn : Nat) (he : Nat) (en : Nat) (ln : Nat) (iw : Bool) (dg : Bool) (v : Nat → Int32) (a : Nat) (ha : a < 4) : zM G D vwCl (zT cy) l yX6_selects wsX6_selects rmX6_selects_ok [.ref x9, .int (nI a)] [(x9, .inr (10, [.int th, .int (nI ch), .int era, .int why, .int det, .int cau, .int (zI sv), .int (zI rj), .ref v9, .ref b9, .ref s9, .ref k9, .ref p9, .ref t9, .ref n9, .int (nI tn), .int (nI he), .int (nI en), .int (nI ln), .int (zI iw), .int (zI dg)])), (v9, .inl (cy 0, 188, .inl v))] (some (.int (v 2))) [(x9, .inr (10, [.int th, .int (nI ch), .int era, .int why, .int det, .int cau, .int (zI sv), .int (zI rj), .ref v9, .ref b9, .ref s9, .ref k9, .ref p9, .ref t9, .ref n9, .int (nI tn), .int (nI he), .int (nI en), .int (nI ln), .int (zI iw), .int (zI dg)])), (v9, .inl (cy 0, 188, .inl (upd v 2 (nI a))))] := by
  refine zM_of (cc := cX6_selects) (maxL := 3) (ret := (some .int)) (by decide) rfl (Nat.le_of_ble_eq_true rfl) ?_
  intro p e s m below meth c A Q hend hx hb hml hr hts hown hlk hG hK hP hD hA hS ls hl
  have hown : s.vm.findClass RX6 = some m.cls := hown
  have in_RX6 : ∀ w ∈ u_ws RX6 TX6 21, w ∈ wsX6_selects := by decide +kernel
  have hl : lv_has ls 3 [(0, .ref x9), (1, .int (nI a))] := hl
  refine lv_iload_n hx hb dX6_selects_0 rfl (lv_at hl 1 rfl) ?_
  refine zcS (As := [.int (nI a)]) (rest := []) [] hg.1 ⟨hx, hb, hml, hown, hts⟩ (c_X6_isFeeder hg l D cy (nI a)) (va_cwS 1 hts gX6_selects_X6_isFeeder rfl rfl rfl (by decide +kernel) ⟨Nat.le_of_ble_eq_true rfl, Nat.le_of_ble_eq_true rfl⟩) hG hK hP hD hS hA rfl rfl rfl  rfl hl.1 rfl (Nat.le_of_ble_eq_true rfl) dX6_selects_1 ⟨Nat.zero_le _, Nat.zero_le _⟩ (fun H locs hP hD hS => ?_)
  have hP : va_P D vwCl [(x9, .inr (10, [.int th, .int (nI ch), .int era, .int why, .int det, .int cau, .int (zI sv), .int (zI rj), .ref v9, .ref b9, .ref s9, .ref k9, .ref p9, .ref t9, .ref n9, .int (nI tn), .int (nI he), .int (nI en), .int (nI ln), .int (zI iw), .int (zI dg)])), (v9, .inl (cy 0, 188, .inl v))] H := hP
  have hD : va_D A [(x9, .inr (10, [.int th, .int (nI ch), .int era, .int why, .int det, .int cau, .int (zI sv), .int (zI rj), .ref v9, .ref b9, .ref s9, .ref k9, .ref p9, .ref t9, .ref n9, .int (nI tn), .int (nI he), .int (nI en), .int (nI ln), .int (zI iw), .int (zI dg)])), (v9, .inl (cy 0, 188, .inl v))] := hD
  refine lv_if_ne (tgt := 13) hx hb dX6_selects_4 (by decide) (fun c_1 => ?_) (fun c_1 => ?_)
  · replace c_1 := zI1 c_1
    refine lv_aload_n hx hb dX6_selects_13 rfl (lv_at hl 0 rfl) ?_
    refine va_get (D := D) (ci := 10) (v := .ref v9) (C := RX6) (T := TX6) (N := 21) hx hb hts in_RX6 hown hK hP 0 rfl rfl 8 (by decide) (hts _ (List.mem_of_getElem? (i := 1) rfl)) (fun _ h9 => h9) rfl dX6_selects_14 ?_
    refine lv_iconst (v := 2) hx hb dX6_selects_17 (by decide) ?_
    refine ziald 1 0 2 hx hb hK hP rfl rfl (by omega) (z_lt rfl) dX6_selects_18 ?_
    refine lv_istore_n (lv' := [(2, .int (v 2)), (0, .ref x9), (1, .int (nI a))]) hx hb dX6_selects_19 rfl hl (by decide) rfl (fun ls hl => ?_)
    refine lv_aload_n hx hb dX6_selects_20 rfl (lv_at hl 1 rfl) ?_
    refine va_get (D := D) (ci := 10) (v := .ref v9) (C := RX6) (T := TX6) (N := 21) hx hb hts in_RX6 hown hK hP 0 rfl rfl 8 (by decide) (hts _ (List.mem_of_getElem? (i := 1) rfl)) (fun _ h9 => h9) rfl dX6_selects_21 ?_
    refine lv_iconst (v := 2) hx hb dX6_selects_24 (by decide) ?_
    refine lv_iload_n hx hb dX6_selects_25 rfl (lv_at hl 2 rfl) ?_
    refine ziast 1 0 2 hx hb hK hP hD hS rfl rfl (by omega) (z_lt rfl) dX6_selects_26 (fun H locs hP hD hS => ?_)
    have hP : va_P D vwCl [(x9, .inr (10, [.int th, .int (nI ch), .int era, .int why, .int det, .int cau, .int (zI sv), .int (zI rj), .ref v9, .ref b9, .ref s9, .ref k9, .ref p9, .ref t9, .ref n9, .int (nI tn), .int (nI he), .int (nI en), .int (nI ln), .int (zI iw), .int (zI dg)])), (v9, .inl (cy 0, 188, .inl (upd v 2 (nI a))))] H := hP
    have hD : va_D A [(x9, .inr (10, [.int th, .int (nI ch), .int era, .int why, .int det, .int cau, .int (zI sv), .int (zI rj), .ref v9, .ref b9, .ref s9, .ref k9, .ref p9, .ref t9, .ref n9, .int (nI tn), .int (nI he), .int (nI en), .int (nI ln), .int (zI iw), .int (zI dg)])), (v9, .inl (cy 0, 188, .inl (upd v 2 (nI a))))] := hD
    refine lv_iload_n hx hb dX6_selects_27 rfl (lv_at hl 0 rfl) ?_
    exact ziret hend hx hb hr hlk hK hP hD hS dX6_selects_28 rfl rfl
  · replace c_1 := zI0 c_1
    exact absurd ((zic3 ha).symm.trans c_1) (by decide)

abbrev rmX6_selects_f1 : Room := { frames := 2, cells := 0, slots := 0, locals := 42 }
set_option maxHeartbeats 4000000 in
set_option maxRecDepth 100000 in
theorem c_X6_selects_f1 {G : zG} (hg : zGN G) (l : Launch) (D : va_G) (cy : Nat → ClassId) (x9 : Nat) (th : Int32) (ch : Nat) (era : Int32) (why : Int32) (det : Int32) (cau : Int32) (sv : Bool) (rj : Bool) (v9 : Nat) (b9 : Nat) (s9 : Nat) (k9 : Nat) (p9 : Nat) (t9 : Nat) (n9 : Nat) (tn : Nat) (he : Nat) (en : Nat) (ln : Nat) (iw : Bool) (dg : Bool) (nq : Int32) (hq : zic 0 3 nq = false) : zM G D vwCl (zT cy) l yX6_selects wsX6_selects rmX6_selects_f1 [.ref x9, .int nq] [(x9, .inr (10, [.int th, .int (nI ch), .int era, .int why, .int det, .int cau, .int (zI sv), .int (zI rj), .ref v9, .ref b9, .ref s9, .ref k9, .ref p9, .ref t9, .ref n9, .int (nI tn), .int (nI he), .int (nI en), .int (nI ln), .int (zI iw), .int (zI dg)]))] (some (.int 0)) [(x9, .inr (10, [.int 1, .int (nI ch), .int era, .int why, .int det, .int cau, .int (zI sv), .int (zI rj), .ref v9, .ref b9, .ref s9, .ref k9, .ref p9, .ref t9, .ref n9, .int (nI tn), .int (nI he), .int (nI en), .int (nI ln), .int (zI iw), .int (zI dg)]))] := by
  refine zM_of (cc := cX6_selects) (maxL := 3) (ret := (some .int)) (by decide) rfl (Nat.le_of_ble_eq_true rfl) ?_
  intro p e s m below meth c A Q hend hx hb hml hr hts hown hlk hG hK hP hD hA hS ls hl
  have hown : s.vm.findClass RX6 = some m.cls := hown
  have hl : lv_has ls 3 [(0, .ref x9), (1, .int nq)] := hl
  refine lv_iload_n hx hb dX6_selects_0 rfl (lv_at hl 1 rfl) ?_
  refine zcS (As := [.int nq]) (rest := []) [] hg.1 ⟨hx, hb, hml, hown, hts⟩ (c_X6_isFeeder hg l D cy nq) (va_cwS 1 hts gX6_selects_X6_isFeeder rfl rfl rfl (by decide +kernel) ⟨Nat.le_of_ble_eq_true rfl, Nat.le_of_ble_eq_true rfl⟩) hG hK hP hD hS hA rfl rfl rfl  rfl hl.1 rfl (Nat.le_of_ble_eq_true rfl) dX6_selects_1 ⟨Nat.zero_le _, Nat.zero_le _⟩ (fun H locs hP hD hS => ?_)
  have hP : va_P D vwCl [(x9, .inr (10, [.int th, .int (nI ch), .int era, .int why, .int det, .int cau, .int (zI sv), .int (zI rj), .ref v9, .ref b9, .ref s9, .ref k9, .ref p9, .ref t9, .ref n9, .int (nI tn), .int (nI he), .int (nI en), .int (nI ln), .int (zI iw), .int (zI dg)]))] H := hP
  have hD : va_D A [(x9, .inr (10, [.int th, .int (nI ch), .int era, .int why, .int det, .int cau, .int (zI sv), .int (zI rj), .ref v9, .ref b9, .ref s9, .ref k9, .ref p9, .ref t9, .ref n9, .int (nI tn), .int (nI he), .int (nI en), .int (nI ln), .int (zI iw), .int (zI dg)]))] := hD
  refine lv_if_ne (tgt := 13) hx hb dX6_selects_4 (by decide) (fun c_1 => ?_) (fun c_1 => ?_)
  · replace c_1 := zI1 c_1
    exact absurd (hq.symm.trans c_1) (by decide)
  · replace c_1 := zI0 c_1
    refine lv_aload_n hx hb dX6_selects_7 rfl (lv_at hl 0 rfl) ?_
    refine lv_iconst (v := 1) hx hb dX6_selects_8 (by decide) ?_
    refine zcV (As := [.int 1]) (rest := []) [0] 0 hg.1 ⟨hx, hb, hml, hown, hts⟩ (c_X6_fail hg l D cy x9 th ch era why det cau sv rj v9 b9 s9 k9 p9 t9 n9 tn he en ln iw dg 1) (cwV 1 hts gX6_selects_X6_fail rfl rfl rfl (by decide +kernel) ⟨Nat.le_of_ble_eq_true rfl, Nat.le_of_ble_eq_true rfl⟩) hG hK hP hD hS hA rfl rfl (Eq.trans (b := [x9]) rfl rfl) rfl rfl rfl hl.1 rfl (Nat.le_of_ble_eq_true rfl) dX6_selects_9 ⟨Nat.zero_le _, Nat.zero_le _⟩ (fun H locs hP hD hS => ?_)
    have hP : va_P D vwCl [(x9, .inr (10, [.int 1, .int (nI ch), .int era, .int why, .int det, .int cau, .int (zI sv), .int (zI rj), .ref v9, .ref b9, .ref s9, .ref k9, .ref p9, .ref t9, .ref n9, .int (nI tn), .int (nI he), .int (nI en), .int (nI ln), .int (zI iw), .int (zI dg)]))] H := hP
    have hD : va_D A [(x9, .inr (10, [.int 1, .int (nI ch), .int era, .int why, .int det, .int cau, .int (zI sv), .int (zI rj), .ref v9, .ref b9, .ref s9, .ref k9, .ref p9, .ref t9, .ref n9, .int (nI tn), .int (nI he), .int (nI en), .int (nI ln), .int (zI iw), .int (zI dg)]))] := hD
    exact ziret hend hx hb hr hlk hK hP hD hS dX6_selects_12 rfl rfl

abbrev rmX6_tenses_ok : Room := { frames := 1, cells := 0, slots := 0, locals := 22 }
set_option maxHeartbeats 4000000 in
set_option maxRecDepth 100000 in
theorem c_X6_tenses_ok {G : zG} (hg : zGN G) (l : Launch) (D : va_G) (cy : Nat → ClassId) (x9 : Nat) (th : Int32) (ch : Nat) (era : Int32) (why : Int32) (det : Int32) (cau : Int32) (sv : Bool) (rj : Bool) (v9 : Nat) (b9 : Nat) (s9 : Nat) (k9 : Nat) (p9 : Nat) (t9 : Nat) (n9 : Nat) (tn : Nat) (he : Nat) (en : Nat) (ln : Nat) (iw : Bool) (dg : Bool) (v : Nat → Int32) (u : Int32) (hu : zic 1 9 u = true) : zM G D vwCl (zT cy) l yX6_tenses wsX6_tenses rmX6_tenses_ok [.ref x9, .int u] [(x9, .inr (10, [.int th, .int (nI ch), .int era, .int why, .int det, .int cau, .int (zI sv), .int (zI rj), .ref v9, .ref b9, .ref s9, .ref k9, .ref p9, .ref t9, .ref n9, .int (nI tn), .int (nI he), .int (nI en), .int (nI ln), .int (zI iw), .int (zI dg)])), (v9, .inl (cy 0, 188, .inl v))] (some (.int (v 3))) [(x9, .inr (10, [.int th, .int (nI ch), .int era, .int why, .int det, .int cau, .int (zI sv), .int (zI rj), .ref v9, .ref b9, .ref s9, .ref k9, .ref p9, .ref t9, .ref n9, .int (nI tn), .int (nI he), .int (nI en), .int (nI ln), .int (zI iw), .int (zI dg)])), (v9, .inl (cy 0, 188, .inl (upd v 3 u)))] := by
  refine zM_of (cc := cX6_tenses) (maxL := 3) (ret := (some .int)) (by decide) rfl (Nat.le_of_ble_eq_true rfl) ?_
  intro p e s m below meth c A Q hend hx hb hml hr hts hown hlk hG hK hP hD hA hS ls hl
  have hown : s.vm.findClass RX6 = some m.cls := hown
  have in_RX6 : ∀ w ∈ u_ws RX6 TX6 21, w ∈ wsX6_tenses := by decide +kernel
  have hl : lv_has ls 3 [(0, .ref x9), (1, .int u)] := hl
  refine lv_iload_n hx hb dX6_tenses_0 rfl (lv_at hl 1 rfl) ?_
  refine lv_iconst (v := 1) hx hb dX6_tenses_1 (by decide) ?_
  refine lv_bipush (v := 9) hx hb dX6_tenses_2 (by decide) ?_
  refine zcS (As := [.int u, .int 1, .int 9]) (rest := []) [] hg.1 ⟨hx, hb, hml, hown, hts⟩ (c_X6_isIn hg l D cy u 1 9) (va_cwS 3 hts gX6_tenses_X6_isIn rfl rfl rfl (by decide +kernel) ⟨Nat.le_of_ble_eq_true rfl, Nat.le_of_ble_eq_true rfl⟩) hG hK hP hD hS hA rfl rfl rfl  rfl hl.1 rfl (Nat.le_of_ble_eq_true rfl) dX6_tenses_4 ⟨Nat.zero_le _, Nat.zero_le _⟩ (fun H locs hP hD hS => ?_)
  have hP : va_P D vwCl [(x9, .inr (10, [.int th, .int (nI ch), .int era, .int why, .int det, .int cau, .int (zI sv), .int (zI rj), .ref v9, .ref b9, .ref s9, .ref k9, .ref p9, .ref t9, .ref n9, .int (nI tn), .int (nI he), .int (nI en), .int (nI ln), .int (zI iw), .int (zI dg)])), (v9, .inl (cy 0, 188, .inl v))] H := hP
  have hD : va_D A [(x9, .inr (10, [.int th, .int (nI ch), .int era, .int why, .int det, .int cau, .int (zI sv), .int (zI rj), .ref v9, .ref b9, .ref s9, .ref k9, .ref p9, .ref t9, .ref n9, .int (nI tn), .int (nI he), .int (nI en), .int (nI ln), .int (zI iw), .int (zI dg)])), (v9, .inl (cy 0, 188, .inl v))] := hD
  refine lv_if_ne (tgt := 16) hx hb dX6_tenses_7 (by decide) (fun c_1 => ?_) (fun c_1 => ?_)
  · replace c_1 := zI1 c_1
    refine lv_aload_n hx hb dX6_tenses_16 rfl (lv_at hl 0 rfl) ?_
    refine va_get (D := D) (ci := 10) (v := .ref v9) (C := RX6) (T := TX6) (N := 21) hx hb hts in_RX6 hown hK hP 0 rfl rfl 8 (by decide) (hts _ (List.mem_of_getElem? (i := 1) rfl)) (fun _ h9 => h9) rfl dX6_tenses_17 ?_
    refine lv_iconst (v := 3) hx hb dX6_tenses_20 (by decide) ?_
    refine ziald 1 0 3 hx hb hK hP rfl rfl (by omega) (z_lt rfl) dX6_tenses_21 ?_
    refine lv_istore_n (lv' := [(2, .int (v 3)), (0, .ref x9), (1, .int u)]) hx hb dX6_tenses_22 rfl hl (by decide) rfl (fun ls hl => ?_)
    refine lv_aload_n hx hb dX6_tenses_23 rfl (lv_at hl 1 rfl) ?_
    refine va_get (D := D) (ci := 10) (v := .ref v9) (C := RX6) (T := TX6) (N := 21) hx hb hts in_RX6 hown hK hP 0 rfl rfl 8 (by decide) (hts _ (List.mem_of_getElem? (i := 1) rfl)) (fun _ h9 => h9) rfl dX6_tenses_24 ?_
    refine lv_iconst (v := 3) hx hb dX6_tenses_27 (by decide) ?_
    refine lv_iload_n hx hb dX6_tenses_28 rfl (lv_at hl 2 rfl) ?_
    refine ziast 1 0 3 hx hb hK hP hD hS rfl rfl (by omega) (z_lt rfl) dX6_tenses_29 (fun H locs hP hD hS => ?_)
    have hP : va_P D vwCl [(x9, .inr (10, [.int th, .int (nI ch), .int era, .int why, .int det, .int cau, .int (zI sv), .int (zI rj), .ref v9, .ref b9, .ref s9, .ref k9, .ref p9, .ref t9, .ref n9, .int (nI tn), .int (nI he), .int (nI en), .int (nI ln), .int (zI iw), .int (zI dg)])), (v9, .inl (cy 0, 188, .inl (upd v 3 u)))] H := hP
    have hD : va_D A [(x9, .inr (10, [.int th, .int (nI ch), .int era, .int why, .int det, .int cau, .int (zI sv), .int (zI rj), .ref v9, .ref b9, .ref s9, .ref k9, .ref p9, .ref t9, .ref n9, .int (nI tn), .int (nI he), .int (nI en), .int (nI ln), .int (zI iw), .int (zI dg)])), (v9, .inl (cy 0, 188, .inl (upd v 3 u)))] := hD
    refine lv_iload_n hx hb dX6_tenses_30 rfl (lv_at hl 0 rfl) ?_
    exact ziret hend hx hb hr hlk hK hP hD hS dX6_tenses_31 rfl rfl
  · replace c_1 := zI0 c_1
    exact absurd (hu.symm.trans c_1) (by decide)

abbrev rmX6_tenses_f1 : Room := { frames := 1, cells := 0, slots := 0, locals := 22 }
set_option maxHeartbeats 4000000 in
set_option maxRecDepth 100000 in
theorem c_X6_tenses_f1 {G : zG} (hg : zGN G) (l : Launch) (D : va_G) (cy : Nat → ClassId) (x9 : Nat) (th : Int32) (ch : Nat) (era : Int32) (why : Int32) (det : Int32) (cau : Int32) (sv : Bool) (rj : Bool) (v9 : Nat) (b9 : Nat) (s9 : Nat) (k9 : Nat) (p9 : Nat) (t9 : Nat) (n9 : Nat) (tn : Nat) (he : Nat) (en : Nat) (ln : Nat) (iw : Bool) (dg : Bool) (u : Int32) (hu : zic 1 9 u = false) : zM G D vwCl (zT cy) l yX6_tenses wsX6_tenses rmX6_tenses_f1 [.ref x9, .int u] [(x9, .inr (10, [.int th, .int (nI ch), .int era, .int why, .int det, .int cau, .int (zI sv), .int (zI rj), .ref v9, .ref b9, .ref s9, .ref k9, .ref p9, .ref t9, .ref n9, .int (nI tn), .int (nI he), .int (nI en), .int (nI ln), .int (zI iw), .int (zI dg)]))] (some (.int 0)) [(x9, .inr (10, [.int 1, .int (nI ch), .int era, .int why, .int det, .int cau, .int (zI sv), .int (zI rj), .ref v9, .ref b9, .ref s9, .ref k9, .ref p9, .ref t9, .ref n9, .int (nI tn), .int (nI he), .int (nI en), .int (nI ln), .int (zI iw), .int (zI dg)]))] := by
  refine zM_of (cc := cX6_tenses) (maxL := 3) (ret := (some .int)) (by decide) rfl (Nat.le_of_ble_eq_true rfl) ?_
  intro p e s m below meth c A Q hend hx hb hml hr hts hown hlk hG hK hP hD hA hS ls hl
  have hown : s.vm.findClass RX6 = some m.cls := hown
  have hl : lv_has ls 3 [(0, .ref x9), (1, .int u)] := hl
  refine lv_iload_n hx hb dX6_tenses_0 rfl (lv_at hl 1 rfl) ?_
  refine lv_iconst (v := 1) hx hb dX6_tenses_1 (by decide) ?_
  refine lv_bipush (v := 9) hx hb dX6_tenses_2 (by decide) ?_
  refine zcS (As := [.int u, .int 1, .int 9]) (rest := []) [] hg.1 ⟨hx, hb, hml, hown, hts⟩ (c_X6_isIn hg l D cy u 1 9) (va_cwS 3 hts gX6_tenses_X6_isIn rfl rfl rfl (by decide +kernel) ⟨Nat.le_of_ble_eq_true rfl, Nat.le_of_ble_eq_true rfl⟩) hG hK hP hD hS hA rfl rfl rfl  rfl hl.1 rfl (Nat.le_of_ble_eq_true rfl) dX6_tenses_4 ⟨Nat.zero_le _, Nat.zero_le _⟩ (fun H locs hP hD hS => ?_)
  have hP : va_P D vwCl [(x9, .inr (10, [.int th, .int (nI ch), .int era, .int why, .int det, .int cau, .int (zI sv), .int (zI rj), .ref v9, .ref b9, .ref s9, .ref k9, .ref p9, .ref t9, .ref n9, .int (nI tn), .int (nI he), .int (nI en), .int (nI ln), .int (zI iw), .int (zI dg)]))] H := hP
  have hD : va_D A [(x9, .inr (10, [.int th, .int (nI ch), .int era, .int why, .int det, .int cau, .int (zI sv), .int (zI rj), .ref v9, .ref b9, .ref s9, .ref k9, .ref p9, .ref t9, .ref n9, .int (nI tn), .int (nI he), .int (nI en), .int (nI ln), .int (zI iw), .int (zI dg)]))] := hD
  refine lv_if_ne (tgt := 16) hx hb dX6_tenses_7 (by decide) (fun c_1 => ?_) (fun c_1 => ?_)
  · replace c_1 := zI1 c_1
    exact absurd (hu.symm.trans c_1) (by decide)
  · replace c_1 := zI0 c_1
    refine lv_aload_n hx hb dX6_tenses_10 rfl (lv_at hl 0 rfl) ?_
    refine lv_iconst (v := 1) hx hb dX6_tenses_11 (by decide) ?_
    refine zcV (As := [.int 1]) (rest := []) [0] 0 hg.1 ⟨hx, hb, hml, hown, hts⟩ (c_X6_fail hg l D cy x9 th ch era why det cau sv rj v9 b9 s9 k9 p9 t9 n9 tn he en ln iw dg 1) (cwV 1 hts gX6_tenses_X6_fail rfl rfl rfl (by decide +kernel) ⟨Nat.le_of_ble_eq_true rfl, Nat.le_of_ble_eq_true rfl⟩) hG hK hP hD hS hA rfl rfl (Eq.trans (b := [x9]) rfl rfl) rfl rfl rfl hl.1 rfl (Nat.le_of_ble_eq_true rfl) dX6_tenses_12 ⟨Nat.zero_le _, Nat.zero_le _⟩ (fun H locs hP hD hS => ?_)
    have hP : va_P D vwCl [(x9, .inr (10, [.int 1, .int (nI ch), .int era, .int why, .int det, .int cau, .int (zI sv), .int (zI rj), .ref v9, .ref b9, .ref s9, .ref k9, .ref p9, .ref t9, .ref n9, .int (nI tn), .int (nI he), .int (nI en), .int (nI ln), .int (zI iw), .int (zI dg)]))] H := hP
    have hD : va_D A [(x9, .inr (10, [.int 1, .int (nI ch), .int era, .int why, .int det, .int cau, .int (zI sv), .int (zI rj), .ref v9, .ref b9, .ref s9, .ref k9, .ref p9, .ref t9, .ref n9, .int (nI tn), .int (nI he), .int (nI en), .int (nI ln), .int (zI iw), .int (zI dg)]))] := hD
    exact ziret hend hx hb hr hlk hK hP hD hS dX6_tenses_15 rfl rfl

abbrev rmX6_addsRow_ok : Room := { frames := 1, cells := 0, slots := 0, locals := 22 }
set_option maxHeartbeats 4000000 in
set_option maxRecDepth 100000 in
theorem c_X6_addsRow_ok {G : zG} (hg : zGN G) (l : Launch) (D : va_G) (cy : Nat → ClassId) (x9 : Nat) (th : Int32) (ch : Nat) (era : Int32) (why : Int32) (det : Int32) (cau : Int32) (sv : Bool) (rj : Bool) (v9 : Nat) (b9 : Nat) (s9 : Nat) (k9 : Nat) (p9 : Nat) (t9 : Nat) (n9 : Nat) (tn : Nat) (he : Nat) (en : Nat) (ln : Nat) (iw : Bool) (dg : Bool) (v : Nat → Int32) (u : Int32) (rw : Nat) (hv4 : v 4 = nI rw) (hrw : rw < 6) (hu : zic 0 255 u = true) : zM G D vwCl (zT cy) l yX6_addsRow wsX6_addsRow rmX6_addsRow_ok [.ref x9, .int u] [(x9, .inr (10, [.int th, .int (nI ch), .int era, .int why, .int det, .int cau, .int (zI sv), .int (zI rj), .ref v9, .ref b9, .ref s9, .ref k9, .ref p9, .ref t9, .ref n9, .int (nI tn), .int (nI he), .int (nI en), .int (nI ln), .int (zI iw), .int (zI dg)])), (v9, .inl (cy 0, 188, .inl v))] (some (.int (nI (rw + 1)))) [(x9, .inr (10, [.int th, .int (nI ch), .int era, .int why, .int det, .int cau, .int (zI sv), .int (zI rj), .ref v9, .ref b9, .ref s9, .ref k9, .ref p9, .ref t9, .ref n9, .int (nI tn), .int (nI he), .int (nI en), .int (nI ln), .int (zI iw), .int (zI dg)])), (v9, .inl (cy 0, 188, .inl (upd (upd v (62 + rw) u) 4 (nI (rw + 1)))))] := by
  refine zM_of (cc := cX6_addsRow) (maxL := 2) (ret := (some .int)) (by decide) rfl (Nat.le_of_ble_eq_true rfl) ?_
  intro p e s m below meth c A Q hend hx hb hml hr hts hown hlk hG hK hP hD hA hS ls hl
  have hown : s.vm.findClass RX6 = some m.cls := hown
  have in_RX6 : ∀ w ∈ u_ws RX6 TX6 21, w ∈ wsX6_addsRow := by decide +kernel
  have hl : lv_has ls 2 [(0, .ref x9), (1, .int u)] := hl
  refine lv_iload_n hx hb dX6_addsRow_0 rfl (lv_at hl 1 rfl) ?_
  refine lv_iconst (v := 0) hx hb dX6_addsRow_1 (by decide) ?_
  refine lv_sipush (v := 255) hx hb dX6_addsRow_2 (by decide) ?_
  refine zcS (As := [.int u, .int 0, .int 255]) (rest := []) [] hg.1 ⟨hx, hb, hml, hown, hts⟩ (c_X6_isIn hg l D cy u 0 255) (va_cwS 3 hts gX6_addsRow_X6_isIn rfl rfl rfl (by decide +kernel) ⟨Nat.le_of_ble_eq_true rfl, Nat.le_of_ble_eq_true rfl⟩) hG hK hP hD hS hA rfl rfl rfl  rfl hl.1 rfl (Nat.le_of_ble_eq_true rfl) dX6_addsRow_5 ⟨Nat.zero_le _, Nat.zero_le _⟩ (fun H locs hP hD hS => ?_)
  have hP : va_P D vwCl [(x9, .inr (10, [.int th, .int (nI ch), .int era, .int why, .int det, .int cau, .int (zI sv), .int (zI rj), .ref v9, .ref b9, .ref s9, .ref k9, .ref p9, .ref t9, .ref n9, .int (nI tn), .int (nI he), .int (nI en), .int (nI ln), .int (zI iw), .int (zI dg)])), (v9, .inl (cy 0, 188, .inl v))] H := hP
  have hD : va_D A [(x9, .inr (10, [.int th, .int (nI ch), .int era, .int why, .int det, .int cau, .int (zI sv), .int (zI rj), .ref v9, .ref b9, .ref s9, .ref k9, .ref p9, .ref t9, .ref n9, .int (nI tn), .int (nI he), .int (nI en), .int (nI ln), .int (zI iw), .int (zI dg)])), (v9, .inl (cy 0, 188, .inl v))] := hD
  refine lv_if_ne (tgt := 17) hx hb dX6_addsRow_8 (by decide) (fun c_1 => ?_) (fun c_1 => ?_)
  · replace c_1 := zI1 c_1
    refine lv_aload_n hx hb dX6_addsRow_17 rfl (lv_at hl 0 rfl) ?_
    refine va_get (D := D) (ci := 10) (v := .ref v9) (C := RX6) (T := TX6) (N := 21) hx hb hts in_RX6 hown hK hP 0 rfl rfl 8 (by decide) (hts _ (List.mem_of_getElem? (i := 1) rfl)) (fun _ h9 => h9) rfl dX6_addsRow_18 ?_
    refine lv_iconst (v := 4) hx hb dX6_addsRow_21 (by decide) ?_
    refine ziald 1 0 4 hx hb hK hP rfl rfl (by omega) (z_lt rfl) dX6_addsRow_22 ?_
    refine z_top (y := nI rw) (hv4) ?_
    refine lv_bipush (v := 6) hx hb dX6_addsRow_23 (by decide) ?_
    refine lv_icmp_ne (tgt := 38) hx hb dX6_addsRow_25 (by decide) (fun c_2 => ?_) (fun c_2 => ?_)
    · refine lv_aload_n hx hb dX6_addsRow_38 rfl (lv_at hl 0 rfl) ?_
      refine va_get (D := D) (ci := 10) (v := .ref v9) (C := RX6) (T := TX6) (N := 21) hx hb hts in_RX6 hown hK hP 0 rfl rfl 8 (by decide) (hts _ (List.mem_of_getElem? (i := 1) rfl)) (fun _ h9 => h9) rfl dX6_addsRow_39 ?_
      refine lv_bipush (v := 62) hx hb dX6_addsRow_42 (by decide) ?_
      refine lv_aload_n hx hb dX6_addsRow_44 rfl (lv_at hl 0 rfl) ?_
      refine va_get (D := D) (ci := 10) (v := .ref v9) (C := RX6) (T := TX6) (N := 21) hx hb hts in_RX6 hown hK hP 0 rfl rfl 8 (by decide) (hts _ (List.mem_of_getElem? (i := 1) rfl)) (fun _ h9 => h9) rfl dX6_addsRow_45 ?_
      refine lv_iconst (v := 4) hx hb dX6_addsRow_48 (by decide) ?_
      refine ziald 1 0 4 hx hb hK hP rfl rfl (by omega) (z_lt rfl) dX6_addsRow_49 ?_
      refine z_top (y := nI rw) (hv4) ?_
      refine lv_iadd hx hb dX6_addsRow_50 ?_
      refine z_top (y := nI (62 + rw)) (nI_add 62 rw) ?_
      refine lv_iload_n hx hb dX6_addsRow_51 rfl (lv_at hl 1 rfl) ?_
      refine ziast 1 0 (62 + rw) hx hb hK hP hD hS rfl rfl (by omega) (z_lt rfl) dX6_addsRow_52 (fun H locs hP hD hS => ?_)
      have hP : va_P D vwCl [(x9, .inr (10, [.int th, .int (nI ch), .int era, .int why, .int det, .int cau, .int (zI sv), .int (zI rj), .ref v9, .ref b9, .ref s9, .ref k9, .ref p9, .ref t9, .ref n9, .int (nI tn), .int (nI he), .int (nI en), .int (nI ln), .int (zI iw), .int (zI dg)])), (v9, .inl (cy 0, 188, .inl (upd v (62 + rw) u)))] H := hP
      have hD : va_D A [(x9, .inr (10, [.int th, .int (nI ch), .int era, .int why, .int det, .int cau, .int (zI sv), .int (zI rj), .ref v9, .ref b9, .ref s9, .ref k9, .ref p9, .ref t9, .ref n9, .int (nI tn), .int (nI he), .int (nI en), .int (nI ln), .int (zI iw), .int (zI dg)])), (v9, .inl (cy 0, 188, .inl (upd v (62 + rw) u)))] := hD
      refine lv_aload_n hx hb dX6_addsRow_53 rfl (lv_at hl 0 rfl) ?_
      refine va_get (D := D) (ci := 10) (v := .ref v9) (C := RX6) (T := TX6) (N := 21) hx hb hts in_RX6 hown hK hP 0 rfl rfl 8 (by decide) (hts _ (List.mem_of_getElem? (i := 1) rfl)) (fun _ h9 => h9) rfl dX6_addsRow_54 ?_
      refine lv_iconst (v := 4) hx hb dX6_addsRow_57 (by decide) ?_
      refine lv_dup2_11 hx hb dX6_addsRow_58 rfl rfl ?_
      refine ziald 1 0 4 hx hb hK hP rfl rfl (by omega) (z_lt rfl) dX6_addsRow_59 ?_
      refine z_top (y := nI rw) (by simp only [upd]; rw [if_neg (by omega)]; exact hv4) ?_
      refine lv_iconst (v := 1) hx hb dX6_addsRow_60 (by decide) ?_
      refine lv_iadd hx hb dX6_addsRow_61 ?_
      refine z_top (y := nI (rw + 1)) (nI_add rw 1) ?_
      refine ziast 1 0 4 hx hb hK hP hD hS rfl rfl (by omega) (z_lt rfl) dX6_addsRow_62 (fun H locs hP hD hS => ?_)
      have hP : va_P D vwCl [(x9, .inr (10, [.int th, .int (nI ch), .int era, .int why, .int det, .int cau, .int (zI sv), .int (zI rj), .ref v9, .ref b9, .ref s9, .ref k9, .ref p9, .ref t9, .ref n9, .int (nI tn), .int (nI he), .int (nI en), .int (nI ln), .int (zI iw), .int (zI dg)])), (v9, .inl (cy 0, 188, .inl (upd (upd v (62 + rw) u) 4 (nI (rw + 1)))))] H := hP
      have hD : va_D A [(x9, .inr (10, [.int th, .int (nI ch), .int era, .int why, .int det, .int cau, .int (zI sv), .int (zI rj), .ref v9, .ref b9, .ref s9, .ref k9, .ref p9, .ref t9, .ref n9, .int (nI tn), .int (nI he), .int (nI en), .int (nI ln), .int (zI iw), .int (zI dg)])), (v9, .inl (cy 0, 188, .inl (upd (upd v (62 + rw) u) 4 (nI (rw + 1)))))] := hD
      refine lv_aload_n hx hb dX6_addsRow_63 rfl (lv_at hl 0 rfl) ?_
      refine va_get (D := D) (ci := 10) (v := .ref v9) (C := RX6) (T := TX6) (N := 21) hx hb hts in_RX6 hown hK hP 0 rfl rfl 8 (by decide) (hts _ (List.mem_of_getElem? (i := 1) rfl)) (fun _ h9 => h9) rfl dX6_addsRow_64 ?_
      refine lv_iconst (v := 4) hx hb dX6_addsRow_67 (by decide) ?_
      refine ziald 1 0 4 hx hb hK hP rfl rfl (by omega) (z_lt rfl) dX6_addsRow_68 ?_
      refine z_top (y := nI (rw + 1)) (rfl) ?_
      exact ziret hend hx hb hr hlk hK hP hD hS dX6_addsRow_69 rfl rfl
    · exact absurd ((nI_eq (a := rw) (b := 6) (by omega) (by omega)).mp c_2) (by omega)
  · replace c_1 := zI0 c_1
    exact absurd (hu.symm.trans c_1) (by decide)

abbrev rmX6_addsRow_rej : Room := { frames := 2, cells := 0, slots := 0, locals := 44 }
set_option maxHeartbeats 4000000 in
set_option maxRecDepth 100000 in
theorem c_X6_addsRow_rej {G : zG} (hg : zGN G) (l : Launch) (D : va_G) (cy : Nat → ClassId) (x9 : Nat) (th : Int32) (ch : Nat) (era : Int32) (why : Int32) (det : Int32) (cau : Int32) (sv : Bool) (rj : Bool) (v9 : Nat) (b9 : Nat) (s9 : Nat) (k9 : Nat) (p9 : Nat) (t9 : Nat) (n9 : Nat) (tn : Nat) (he : Nat) (en : Nat) (ln : Nat) (iw : Bool) (dg : Bool) (v : Nat → Int32) (u : Int32) (rw : Nat) (hv4 : v 4 = nI rw) (hrw : rw = 6) (hu : zic 0 255 u = true) : zM G D vwCl (zT cy) l yX6_addsRow wsX6_addsRow rmX6_addsRow_rej [.ref x9, .int u] [(x9, .inr (10, [.int th, .int (nI ch), .int era, .int why, .int det, .int cau, .int (zI sv), .int (zI rj), .ref v9, .ref b9, .ref s9, .ref k9, .ref p9, .ref t9, .ref n9, .int (nI tn), .int (nI he), .int (nI en), .int (nI ln), .int (zI iw), .int (zI dg)])), (v9, .inl (cy 0, 188, .inl v))] (some (.int 0)) [(x9, .inr (10, [.int 2, .int (nI ch), .int era, .int 12, .int 6, .int 0, .int (zI sv), .int (zI true), .ref v9, .ref b9, .ref s9, .ref k9, .ref p9, .ref t9, .ref n9, .int (nI tn), .int (nI he), .int (nI en), .int (nI ln), .int (zI iw), .int (zI dg)])), (v9, .inl (cy 0, 188, .inl v))] := by
  refine zM_of (cc := cX6_addsRow) (maxL := 2) (ret := (some .int)) (by decide) rfl (Nat.le_of_ble_eq_true rfl) ?_
  intro p e s m below meth c A Q hend hx hb hml hr hts hown hlk hG hK hP hD hA hS ls hl
  have hown : s.vm.findClass RX6 = some m.cls := hown
  have in_RX6 : ∀ w ∈ u_ws RX6 TX6 21, w ∈ wsX6_addsRow := by decide +kernel
  have hl : lv_has ls 2 [(0, .ref x9), (1, .int u)] := hl
  refine lv_iload_n hx hb dX6_addsRow_0 rfl (lv_at hl 1 rfl) ?_
  refine lv_iconst (v := 0) hx hb dX6_addsRow_1 (by decide) ?_
  refine lv_sipush (v := 255) hx hb dX6_addsRow_2 (by decide) ?_
  refine zcS (As := [.int u, .int 0, .int 255]) (rest := []) [] hg.1 ⟨hx, hb, hml, hown, hts⟩ (c_X6_isIn hg l D cy u 0 255) (va_cwS 3 hts gX6_addsRow_X6_isIn rfl rfl rfl (by decide +kernel) ⟨Nat.le_of_ble_eq_true rfl, Nat.le_of_ble_eq_true rfl⟩) hG hK hP hD hS hA rfl rfl rfl  rfl hl.1 rfl (Nat.le_of_ble_eq_true rfl) dX6_addsRow_5 ⟨Nat.zero_le _, Nat.zero_le _⟩ (fun H locs hP hD hS => ?_)
  have hP : va_P D vwCl [(x9, .inr (10, [.int th, .int (nI ch), .int era, .int why, .int det, .int cau, .int (zI sv), .int (zI rj), .ref v9, .ref b9, .ref s9, .ref k9, .ref p9, .ref t9, .ref n9, .int (nI tn), .int (nI he), .int (nI en), .int (nI ln), .int (zI iw), .int (zI dg)])), (v9, .inl (cy 0, 188, .inl v))] H := hP
  have hD : va_D A [(x9, .inr (10, [.int th, .int (nI ch), .int era, .int why, .int det, .int cau, .int (zI sv), .int (zI rj), .ref v9, .ref b9, .ref s9, .ref k9, .ref p9, .ref t9, .ref n9, .int (nI tn), .int (nI he), .int (nI en), .int (nI ln), .int (zI iw), .int (zI dg)])), (v9, .inl (cy 0, 188, .inl v))] := hD
  refine lv_if_ne (tgt := 17) hx hb dX6_addsRow_8 (by decide) (fun c_1 => ?_) (fun c_1 => ?_)
  · replace c_1 := zI1 c_1
    refine lv_aload_n hx hb dX6_addsRow_17 rfl (lv_at hl 0 rfl) ?_
    refine va_get (D := D) (ci := 10) (v := .ref v9) (C := RX6) (T := TX6) (N := 21) hx hb hts in_RX6 hown hK hP 0 rfl rfl 8 (by decide) (hts _ (List.mem_of_getElem? (i := 1) rfl)) (fun _ h9 => h9) rfl dX6_addsRow_18 ?_
    refine lv_iconst (v := 4) hx hb dX6_addsRow_21 (by decide) ?_
    refine ziald 1 0 4 hx hb hK hP rfl rfl (by omega) (z_lt rfl) dX6_addsRow_22 ?_
    refine z_top (y := nI rw) (hv4) ?_
    refine lv_bipush (v := 6) hx hb dX6_addsRow_23 (by decide) ?_
    refine lv_icmp_ne (tgt := 38) hx hb dX6_addsRow_25 (by decide) (fun c_2 => ?_) (fun c_2 => ?_)
    · exact absurd (by rw [hrw]; rfl) c_2
    · refine lv_aload_n hx hb dX6_addsRow_28 rfl (lv_at hl 0 rfl) ?_
      refine lv_iconst (v := 2) hx hb dX6_addsRow_29 (by decide) ?_
      refine lv_bipush (v := 12) hx hb dX6_addsRow_30 (by decide) ?_
      refine lv_bipush (v := 6) hx hb dX6_addsRow_32 (by decide) ?_
      refine zcV (As := [.int 2, .int 12, .int 6]) (rest := []) [0] 0 hg.1 ⟨hx, hb, hml, hown, hts⟩ (c_X6_rejects hg l D cy x9 th ch era why det cau sv rj v9 b9 s9 k9 p9 t9 n9 tn he en ln iw dg 2 12 6) (cwV 3 hts gX6_addsRow_X6_rejects rfl rfl rfl (by decide +kernel) ⟨Nat.le_of_ble_eq_true rfl, Nat.le_of_ble_eq_true rfl⟩) hG hK hP hD hS hA rfl rfl (Eq.trans (b := [x9]) rfl rfl) rfl rfl rfl hl.1 rfl (Nat.le_of_ble_eq_true rfl) dX6_addsRow_34 ⟨Nat.zero_le _, Nat.zero_le _⟩ (fun H locs hP hD hS => ?_)
      have hP : va_P D vwCl [(x9, .inr (10, [.int 2, .int (nI ch), .int era, .int 12, .int 6, .int 0, .int (zI sv), .int (zI true), .ref v9, .ref b9, .ref s9, .ref k9, .ref p9, .ref t9, .ref n9, .int (nI tn), .int (nI he), .int (nI en), .int (nI ln), .int (zI iw), .int (zI dg)])), (v9, .inl (cy 0, 188, .inl v))] H := hP
      have hD : va_D A [(x9, .inr (10, [.int 2, .int (nI ch), .int era, .int 12, .int 6, .int 0, .int (zI sv), .int (zI true), .ref v9, .ref b9, .ref s9, .ref k9, .ref p9, .ref t9, .ref n9, .int (nI tn), .int (nI he), .int (nI en), .int (nI ln), .int (zI iw), .int (zI dg)])), (v9, .inl (cy 0, 188, .inl v))] := hD
      exact ziret hend hx hb hr hlk hK hP hD hS dX6_addsRow_37 rfl rfl
  · replace c_1 := zI0 c_1
    exact absurd (hu.symm.trans c_1) (by decide)

abbrev rmX6_addsRow_f1 : Room := { frames := 1, cells := 0, slots := 0, locals := 22 }
set_option maxHeartbeats 4000000 in
set_option maxRecDepth 100000 in
theorem c_X6_addsRow_f1 {G : zG} (hg : zGN G) (l : Launch) (D : va_G) (cy : Nat → ClassId) (x9 : Nat) (th : Int32) (ch : Nat) (era : Int32) (why : Int32) (det : Int32) (cau : Int32) (sv : Bool) (rj : Bool) (v9 : Nat) (b9 : Nat) (s9 : Nat) (k9 : Nat) (p9 : Nat) (t9 : Nat) (n9 : Nat) (tn : Nat) (he : Nat) (en : Nat) (ln : Nat) (iw : Bool) (dg : Bool) (u : Int32) (hu : zic 0 255 u = false) : zM G D vwCl (zT cy) l yX6_addsRow wsX6_addsRow rmX6_addsRow_f1 [.ref x9, .int u] [(x9, .inr (10, [.int th, .int (nI ch), .int era, .int why, .int det, .int cau, .int (zI sv), .int (zI rj), .ref v9, .ref b9, .ref s9, .ref k9, .ref p9, .ref t9, .ref n9, .int (nI tn), .int (nI he), .int (nI en), .int (nI ln), .int (zI iw), .int (zI dg)]))] (some (.int 0)) [(x9, .inr (10, [.int 1, .int (nI ch), .int era, .int why, .int det, .int cau, .int (zI sv), .int (zI rj), .ref v9, .ref b9, .ref s9, .ref k9, .ref p9, .ref t9, .ref n9, .int (nI tn), .int (nI he), .int (nI en), .int (nI ln), .int (zI iw), .int (zI dg)]))] := by
  refine zM_of (cc := cX6_addsRow) (maxL := 2) (ret := (some .int)) (by decide) rfl (Nat.le_of_ble_eq_true rfl) ?_
  intro p e s m below meth c A Q hend hx hb hml hr hts hown hlk hG hK hP hD hA hS ls hl
  have hown : s.vm.findClass RX6 = some m.cls := hown
  have hl : lv_has ls 2 [(0, .ref x9), (1, .int u)] := hl
  refine lv_iload_n hx hb dX6_addsRow_0 rfl (lv_at hl 1 rfl) ?_
  refine lv_iconst (v := 0) hx hb dX6_addsRow_1 (by decide) ?_
  refine lv_sipush (v := 255) hx hb dX6_addsRow_2 (by decide) ?_
  refine zcS (As := [.int u, .int 0, .int 255]) (rest := []) [] hg.1 ⟨hx, hb, hml, hown, hts⟩ (c_X6_isIn hg l D cy u 0 255) (va_cwS 3 hts gX6_addsRow_X6_isIn rfl rfl rfl (by decide +kernel) ⟨Nat.le_of_ble_eq_true rfl, Nat.le_of_ble_eq_true rfl⟩) hG hK hP hD hS hA rfl rfl rfl  rfl hl.1 rfl (Nat.le_of_ble_eq_true rfl) dX6_addsRow_5 ⟨Nat.zero_le _, Nat.zero_le _⟩ (fun H locs hP hD hS => ?_)
  have hP : va_P D vwCl [(x9, .inr (10, [.int th, .int (nI ch), .int era, .int why, .int det, .int cau, .int (zI sv), .int (zI rj), .ref v9, .ref b9, .ref s9, .ref k9, .ref p9, .ref t9, .ref n9, .int (nI tn), .int (nI he), .int (nI en), .int (nI ln), .int (zI iw), .int (zI dg)]))] H := hP
  have hD : va_D A [(x9, .inr (10, [.int th, .int (nI ch), .int era, .int why, .int det, .int cau, .int (zI sv), .int (zI rj), .ref v9, .ref b9, .ref s9, .ref k9, .ref p9, .ref t9, .ref n9, .int (nI tn), .int (nI he), .int (nI en), .int (nI ln), .int (zI iw), .int (zI dg)]))] := hD
  refine lv_if_ne (tgt := 17) hx hb dX6_addsRow_8 (by decide) (fun c_1 => ?_) (fun c_1 => ?_)
  · replace c_1 := zI1 c_1
    exact absurd (hu.symm.trans c_1) (by decide)
  · replace c_1 := zI0 c_1
    refine lv_aload_n hx hb dX6_addsRow_11 rfl (lv_at hl 0 rfl) ?_
    refine lv_iconst (v := 1) hx hb dX6_addsRow_12 (by decide) ?_
    refine zcV (As := [.int 1]) (rest := []) [0] 0 hg.1 ⟨hx, hb, hml, hown, hts⟩ (c_X6_fail hg l D cy x9 th ch era why det cau sv rj v9 b9 s9 k9 p9 t9 n9 tn he en ln iw dg 1) (cwV 1 hts gX6_addsRow_X6_fail rfl rfl rfl (by decide +kernel) ⟨Nat.le_of_ble_eq_true rfl, Nat.le_of_ble_eq_true rfl⟩) hG hK hP hD hS hA rfl rfl (Eq.trans (b := [x9]) rfl rfl) rfl rfl rfl hl.1 rfl (Nat.le_of_ble_eq_true rfl) dX6_addsRow_13 ⟨Nat.zero_le _, Nat.zero_le _⟩ (fun H locs hP hD hS => ?_)
    have hP : va_P D vwCl [(x9, .inr (10, [.int 1, .int (nI ch), .int era, .int why, .int det, .int cau, .int (zI sv), .int (zI rj), .ref v9, .ref b9, .ref s9, .ref k9, .ref p9, .ref t9, .ref n9, .int (nI tn), .int (nI he), .int (nI en), .int (nI ln), .int (zI iw), .int (zI dg)]))] H := hP
    have hD : va_D A [(x9, .inr (10, [.int 1, .int (nI ch), .int era, .int why, .int det, .int cau, .int (zI sv), .int (zI rj), .ref v9, .ref b9, .ref s9, .ref k9, .ref p9, .ref t9, .ref n9, .int (nI tn), .int (nI he), .int (nI en), .int (nI ln), .int (zI iw), .int (zI dg)]))] := hD
    exact ziret hend hx hb hr hlk hK hP hD hS dX6_addsRow_16 rfl rfl

abbrev rmX6_clears : Room := { frames := 0, cells := 0, slots := 0, locals := 0 }
set_option maxHeartbeats 4000000 in
set_option maxRecDepth 100000 in
theorem c_X6_clears {G : zG} (hg : zGN G) (l : Launch) (D : va_G) (cy : Nat → ClassId) (x9 : Nat) (th : Int32) (ch : Nat) (era : Int32) (why : Int32) (det : Int32) (cau : Int32) (sv : Bool) (rj : Bool) (v9 : Nat) (b9 : Nat) (s9 : Nat) (k9 : Nat) (p9 : Nat) (t9 : Nat) (n9 : Nat) (tn : Nat) (he : Nat) (en : Nat) (ln : Nat) (iw : Bool) (dg : Bool) (v : Nat → Int32) : zM G D vwCl (zT cy) l yX6_clears wsX6_clears rmX6_clears [.ref x9] [(x9, .inr (10, [.int th, .int (nI ch), .int era, .int why, .int det, .int cau, .int (zI sv), .int (zI rj), .ref v9, .ref b9, .ref s9, .ref k9, .ref p9, .ref t9, .ref n9, .int (nI tn), .int (nI he), .int (nI en), .int (nI ln), .int (zI iw), .int (zI dg)])), (v9, .inl (cy 0, 188, .inl v))] (some (.int (v 4))) [(x9, .inr (10, [.int th, .int (nI ch), .int era, .int why, .int det, .int cau, .int (zI sv), .int (zI rj), .ref v9, .ref b9, .ref s9, .ref k9, .ref p9, .ref t9, .ref n9, .int (nI tn), .int (nI he), .int (nI en), .int (nI ln), .int (zI iw), .int (zI dg)])), (v9, .inl (cy 0, 188, .inl (upd (zrz v 6) 4 0)))] := by
  refine zM_of (cc := cX6_clears) (maxL := 3) (ret := (some .int)) (by decide) rfl (Nat.le_of_ble_eq_true rfl) ?_
  intro p e s m below meth c A Q hend hx hb hml hr hts hown hlk hG hK hP hD hA hS ls hl
  have hown : s.vm.findClass RX6 = some m.cls := hown
  have in_RX6 : ∀ w ∈ u_ws RX6 TX6 21, w ∈ wsX6_clears := by decide +kernel
  have hl : lv_has ls 3 [(0, .ref x9)] := hl
  refine lv_aload_n hx hb dX6_clears_0 rfl (lv_at hl 0 rfl) ?_
  refine va_get (D := D) (ci := 10) (v := .ref v9) (C := RX6) (T := TX6) (N := 21) hx hb hts in_RX6 hown hK hP 0 rfl rfl 8 (by decide) (hts _ (List.mem_of_getElem? (i := 1) rfl)) (fun _ h9 => h9) rfl dX6_clears_1 ?_
  refine lv_iconst (v := 4) hx hb dX6_clears_4 (by decide) ?_
  refine ziald 1 0 4 hx hb hK hP rfl rfl (by omega) (z_lt rfl) dX6_clears_5 ?_
  refine lv_istore_n (lv' := [(1, .int (v 4)), (0, .ref x9)]) hx hb dX6_clears_6 rfl hl (by decide) rfl (fun ls hl => ?_)
  refine lv_iconst (v := 0) hx hb dX6_clears_7 (by decide) ?_
  refine lv_istore_n (lv' := [(2, .int 0), (1, .int (v 4)), (0, .ref x9)]) hx hb dX6_clears_8 rfl hl (by decide) rfl (fun ls hl => ?_)
  have L9 : ∀ (F : Nat) (k : Nat) (x9_0 : Nat → Int32), k ≤ 6 → 6 - k < F → x9_0 = zrz v k → ∀ (H : Heap) (locs : List Loc), va_P D vwCl [(x9, .inr (10, [.int th, .int (nI ch), .int era, .int why, .int det, .int cau, .int (zI sv), .int (zI rj), .ref v9, .ref b9, .ref s9, .ref k9, .ref p9, .ref t9, .ref n9, .int (nI tn), .int (nI he), .int (nI en), .int (nI ln), .int (zI iw), .int (zI dg)])), (v9, .inl (cy 0, 188, .inl x9_0))] H → va_D A [(x9, .inr (10, [.int th, .int (nI ch), .int era, .int why, .int det, .int cau, .int (zI sv), .int (zI rj), .ref v9, .ref b9, .ref s9, .ref k9, .ref p9, .ref t9, .ref n9, .int (nI tn), .int (nI he), .int (nI en), .int (nI ln), .int (zI iw), .int (zI dg)])), (v9, .inl (cy 0, 188, .inl x9_0))] → va_S A s.heap H locs → ∀ ls : Array Slot, lv_has ls 3 [(0, .ref x9), (1, .int (v 4)), (2, .int (nI k))] → W p l e rmX6_clears s m ([.ref x9] : List Value).toArray below meth c H locs 0 0 Q (F0 m 9 ls []) := by
    intro F
    induction F with
    | zero =>
      intro k x9_0 hk hF ex9_0 H locs hP hD hS ls hl
      exact absurd hF (Nat.not_lt_zero _)
    | succ F ih9 =>
      intro k x9_0 hk hF ex9_0 H locs hP hD hS ls hl
      subst ex9_0
      refine lv_iload_n hx hb dX6_clears_9 rfl (lv_at hl 2 rfl) ?_
      refine lv_bipush (v := 6) hx hb dX6_clears_10 (by decide) ?_
      refine lv_icmp_ge (tgt := 31) hx hb dX6_clears_12 (by decide) (fun c_1 => ?_) (fun c_1 => ?_)
      · have hk2 : 6 ≤ k := (nI_leI (by omega) (by omega)).mp c_1
        obtain rfl : 6 = k := by omega
        refine lv_aload_n hx hb dX6_clears_31 rfl (lv_at hl 0 rfl) ?_
        refine va_get (D := D) (ci := 10) (v := .ref v9) (C := RX6) (T := TX6) (N := 21) hx hb hts in_RX6 hown hK hP 0 rfl rfl 8 (by decide) (hts _ (List.mem_of_getElem? (i := 1) rfl)) (fun _ h9 => h9) rfl dX6_clears_32 ?_
        refine lv_iconst (v := 4) hx hb dX6_clears_35 (by decide) ?_
        refine lv_iconst (v := 0) hx hb dX6_clears_36 (by decide) ?_
        refine ziast 1 0 4 hx hb hK hP hD hS rfl rfl (by omega) (z_lt rfl) dX6_clears_37 (fun H locs hP hD hS => ?_)
        have hP : va_P D vwCl [(x9, .inr (10, [.int th, .int (nI ch), .int era, .int why, .int det, .int cau, .int (zI sv), .int (zI rj), .ref v9, .ref b9, .ref s9, .ref k9, .ref p9, .ref t9, .ref n9, .int (nI tn), .int (nI he), .int (nI en), .int (nI ln), .int (zI iw), .int (zI dg)])), (v9, .inl (cy 0, 188, .inl (upd (zrz v 6) 4 0)))] H := hP
        have hD : va_D A [(x9, .inr (10, [.int th, .int (nI ch), .int era, .int why, .int det, .int cau, .int (zI sv), .int (zI rj), .ref v9, .ref b9, .ref s9, .ref k9, .ref p9, .ref t9, .ref n9, .int (nI tn), .int (nI he), .int (nI en), .int (nI ln), .int (zI iw), .int (zI dg)])), (v9, .inl (cy 0, 188, .inl (upd (zrz v 6) 4 0)))] := hD
        refine lv_iload_n hx hb dX6_clears_38 rfl (lv_at hl 1 rfl) ?_
        exact ziret hend hx hb hr hlk hK hP hD hS dX6_clears_39 rfl rfl
      · have hk2 : k < 6 := Nat.lt_of_not_le (fun z => c_1 (nI_le z (by omega)))
        refine lv_aload_n hx hb dX6_clears_15 rfl (lv_at hl 0 rfl) ?_
        refine va_get (D := D) (ci := 10) (v := .ref v9) (C := RX6) (T := TX6) (N := 21) hx hb hts in_RX6 hown hK hP 0 rfl rfl 8 (by decide) (hts _ (List.mem_of_getElem? (i := 1) rfl)) (fun _ h9 => h9) rfl dX6_clears_16 ?_
        refine lv_bipush (v := 62) hx hb dX6_clears_19 (by decide) ?_
        refine lv_iload_n hx hb dX6_clears_21 rfl (lv_at hl 2 rfl) ?_
        refine lv_iadd hx hb dX6_clears_22 ?_
        refine z_top (y := nI (62 + k)) (nI_add 62 k) ?_
        refine lv_iconst (v := 0) hx hb dX6_clears_23 (by decide) ?_
        refine ziast 1 0 (62 + k) hx hb hK hP hD hS rfl rfl (by omega) (z_lt rfl) dX6_clears_24 (fun H locs hP hD hS => ?_)
        have hP : va_P D vwCl [(x9, .inr (10, [.int th, .int (nI ch), .int era, .int why, .int det, .int cau, .int (zI sv), .int (zI rj), .ref v9, .ref b9, .ref s9, .ref k9, .ref p9, .ref t9, .ref n9, .int (nI tn), .int (nI he), .int (nI en), .int (nI ln), .int (zI iw), .int (zI dg)])), (v9, .inl (cy 0, 188, .inl (upd (zrz v k) (62 + k) 0)))] H := hP
        have hD : va_D A [(x9, .inr (10, [.int th, .int (nI ch), .int era, .int why, .int det, .int cau, .int (zI sv), .int (zI rj), .ref v9, .ref b9, .ref s9, .ref k9, .ref p9, .ref t9, .ref n9, .int (nI tn), .int (nI he), .int (nI en), .int (nI ln), .int (zI iw), .int (zI dg)])), (v9, .inl (cy 0, 188, .inl (upd (zrz v k) (62 + k) 0)))] := hD
        refine lv_iinc (v := nI (k + 1)) (lv' := [(2, .int (nI (k + 1))), (0, .ref x9), (1, .int (v 4))]) hx hb dX6_clears_25 hl (k := 2) rfl (by rw [show Int32.ofInt 1 = nI 1 from rfl, nI_add]) (by decide) rfl (fun ls hl => ?_)
        refine lv_goto (tgt := 9) hx hb dX6_clears_28 (by decide) ?_
        exact ih9 (k + 1) (upd (zrz v k) (62 + k) 0) (by omega) (by omega) (by rfl) H locs hP hD hS ls (lv_sub hl [1, 2, 0] rfl)
  exact L9 (6 - 0 + 1) 0 v (by omega) (Nat.lt_succ_self _) (by rfl) s.heap [] hP hD hS ls (lv_sub hl [2, 1, 0] rfl)
