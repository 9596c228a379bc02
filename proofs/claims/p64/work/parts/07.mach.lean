def zrow (pa : Nat → Int32) (rw c : Nat) : Int32 := if rw = 0 then 255 else pa (c % rw)
def zyb (ya : Nat → Int32) (o i : Nat) : Bool := decide (ya i < ya o) || (decide (ya o = ya i) && !decide (nI i ≤ nI o))
def zpy (ya : Nat → Int32) (i : Nat) : Nat → Int32
  | 0 => 0
  | o + 1 => if zyb ya o i = true then zpy ya i o + 1 else zpy ya i o
def zrc (c : Nat) (nd yl : Int32) : Int32 := if 30 ≤ c then 13 else if nd = 0 then 14 else if nd ≤ yl then 0 else 10
def zrcd (c : Nat) (nd yl rdt : Int32) : Int32 := if 30 ≤ c then 30 else if nd = 0 then nI c else if nd ≤ yl then rdt else nd
def zrcr (c : Nat) (nd yl rrs : Int32) : Int32 := if 30 ≤ c then 13 else if nd = 0 then 14 else if nd ≤ yl then rrs else 10
/-- the rows of the courses ahead -/
def zrf (pa : Nat → Int32) (rw cn : Nat) (k : Nat) : Int32 := zrow pa rw (cn + k)
/-- loops and ages after some courses -/
def zah (rf : Nat → Int32) (lo ag : Nat → Int32) (wk hd : Int32) : Nat → (Nat → Int32) × (Nat → Int32)
  | 0 => (lo, ag)
  | k + 1 => (zpcL (zah rf lo ag wk hd k).1 (zah rf lo ag wk hd k).2 wk hd (rf k) 24, zpcA (zah rf lo ag wk hd k).1 (zah rf lo ag wk hd k).2 wk hd (rf k) 24)
def zahL (rf : Nat → Int32) (lo ag : Nat → Int32) (wk hd : Int32) (k : Nat) : Nat → Int32 := (zah rf lo ag wk hd k).1
def zahA (rf : Nat → Int32) (lo ag : Nat → Int32) (wk hd : Int32) (k : Nat) : Nat → Int32 := (zah rf lo ag wk hd k).2
theorem zahL_s (rf : Nat → Int32) (lo ag : Nat → Int32) (wk hd : Int32) (k : Nat) : zahL rf lo ag wk hd (k + 1) = zpcL (zahL rf lo ag wk hd k) (zahA rf lo ag wk hd k) wk hd (rf k) 24 := by
  unfold zahL zahA; rw [zah]
theorem zahA_s (rf : Nat → Int32) (lo ag : Nat → Int32) (wk hd : Int32) (k : Nat) : zahA rf lo ag wk hd (k + 1) = zpcA (zahL rf lo ag wk hd k) (zahA rf lo ag wk hd k) wk hd (rf k) 24 := by
  unfold zahL zahA; rw [zah]
def zst (rf : Nat → Int32) (lo ag : Nat → Int32) (wk hd : Int32) : Nat → Int32
  | 0 => 0
  | k + 1 => zst rf lo ag wk hd k + zwd (zahL rf lo ag wk hd k) wk hd (rf k) 24
def zdr (rf : Nat → Int32) (lo ag : Nat → Int32) (wk hd : Int32) : Nat → Int32
  | 0 => 0
  | k + 1 => zdr rf lo ag wk hd k + zpcD (zahL rf lo ag wk hd k) (zahA rf lo ag wk hd k) wk hd (rf k) 24
def znd (rf : Nat → Int32) (lo ag : Nat → Int32) (wk hd ten : Int32) (k : Nat) : Int32 := zwd (zahL rf lo ag wk hd k) wk hd (rf k) 24 * ten
def zyl (rf : Nat → Int32) (lo ag : Nat → Int32) (wk hd ten y0 : Int32) : Nat → Int32
  | 0 => y0
  | k + 1 => zyl rf lo ag wk hd ten y0 k - znd rf lo ag wk hd ten k
theorem zrcd_0 {c : Nat} {nd yl rdt : Int32} (h : zrc c nd yl = 0) : zrcd c nd yl rdt = rdt := by
  unfold zrc at h; unfold zrcd
  by_cases h1 : 30 ≤ c
  · simp [h1] at h
  · by_cases h2 : nd = 0
    · simp [h1, h2] at h
    · by_cases h3 : nd ≤ yl
      · simp [h1, h2, h3]
      · simp [h1, h2, h3] at h
theorem zrcr_0 {c : Nat} {nd yl rrs : Int32} (h : zrc c nd yl = 0) : zrcr c nd yl rrs = rrs := by
  unfold zrc at h; unfold zrcr
  by_cases h1 : 30 ≤ c
  · simp [h1] at h
  · by_cases h2 : nd = 0
    · simp [h1, h2] at h
    · by_cases h3 : nd ≤ yl
      · simp [h1, h2, h3]
      · simp [h1, h2, h3] at h
/-- the first course from k on, among n, that is refused; or the one behind them -/
def zca (f : Nat → Int32) : Nat → Nat → Nat
  | 0, k => k
  | n + 1, k => if f k = 0 then zca f n (k + 1) else k
def zcd (cn wq z : Nat) (nd yl rdt : Int32) : Int32 := if z < wq then zrcd (cn + z) nd yl rdt else rdt
def zcr (cn wq z : Nat) (nd yl rrs : Int32) : Int32 := if z < wq then zrcr (cn + z) nd yl rrs else rrs
abbrev rmX4_rowOf : Room := { frames := 0, cells := 0, slots := 0, locals := 0 }
set_option maxHeartbeats 4000000 in
set_option maxRecDepth 100000 in
theorem c_X4_rowOf {G : zG} (hg : zGN G) (l : Launch) (D : va_G) (cy : Nat → ClassId) (m0 : Nat) (h0 : Nat) (k0 : Nat) (yn : Nat) (pt : Nat) (ac : Nat) (ten : Int32) (rw : Nat) (fin : Int32) (add : Int32) (use : Int32) (dro : Int32) (rdt : Int32) (rrs : Int32) (a0 : Nat) (pa : Nat → Int32) (cq : Nat) (hrw : rw ≤ 6) (hcq : cq < 1000) : zM G D vwCl (zT cy) l yX4_rowOf wsX4_rowOf rmX4_rowOf [.ref m0, .int (nI cq)] [(m0, .inr (8, [.ref h0, .ref k0, .ref yn, .ref pt, .int (nI ac), .int ten, .int (nI rw), .int fin, .int add, .int use, .int dro, .int rdt, .int rrs, .ref a0])), (pt, .inl (cy 0, 6, .inl pa))] (some (.int (zrow pa rw cq))) [(m0, .inr (8, [.ref h0, .ref k0, .ref yn, .ref pt, .int (nI ac), .int ten, .int (nI rw), .int fin, .int add, .int use, .int dro, .int rdt, .int rrs, .ref a0])), (pt, .inl (cy 0, 6, .inl pa))] := by
  refine zM_of (cc := cX4_rowOf) (maxL := 2) (ret := (some .int)) (by decide) rfl (Nat.le_of_ble_eq_true rfl) ?_
  intro p e s m below meth c A Q hend hx hb hml hr hts hown hlk hG hK hP hD hA hS ls hl
  have hown : s.vm.findClass RX4 = some m.cls := hown
  have in_RX4 : ∀ w ∈ u_ws RX4 TX4 14, w ∈ wsX4_rowOf := by decide +kernel
  have hl : lv_has ls 2 [(0, .ref m0), (1, .int (nI cq))] := hl
  refine lv_aload_n hx hb dX4_rowOf_0 rfl (lv_at hl 0 rfl) ?_
  refine va_get (D := D) (ci := 8) (v := .int (nI rw)) (C := RX4) (T := TX4) (N := 14) hx hb hts in_RX4 hown hK hP 0 rfl rfl 6 (by decide) (hts _ (List.mem_of_getElem? (i := 1) rfl)) (fun _ h9 => h9) rfl dX4_rowOf_1 ?_
  refine lv_if_ne (tgt := 13) hx hb dX4_rowOf_4 (by decide) (fun c_1 => ?_) (fun c_1 => ?_)
  · have hr0 : 0 < rw := Nat.pos_of_ne_zero (fun z => c_1 (by rw [z]; rfl))
    refine lv_aload_n hx hb dX4_rowOf_13 rfl (lv_at hl 0 rfl) ?_
    refine va_get (D := D) (ci := 8) (v := .ref pt) (C := RX4) (T := TX4) (N := 14) hx hb hts in_RX4 hown hK hP 0 rfl rfl 3 (by decide) (hts _ (List.mem_of_getElem? (i := 2) rfl)) (fun _ h9 => h9) rfl dX4_rowOf_14 ?_
    refine lv_iload_n hx hb dX4_rowOf_17 rfl (lv_at hl 1 rfl) ?_
    refine lv_aload_n hx hb dX4_rowOf_18 rfl (lv_at hl 0 rfl) ?_
    refine va_get (D := D) (ci := 8) (v := .int (nI rw)) (C := RX4) (T := TX4) (N := 14) hx hb hts in_RX4 hown hK hP 0 rfl rfl 6 (by decide) (hts _ (List.mem_of_getElem? (i := 1) rfl)) (fun _ h9 => h9) rfl dX4_rowOf_19 ?_
    refine lv_irem hx hb dX4_rowOf_22 (nI_ne0 hr0 (by omega)) ?_
    refine z_top (y := nI (cq % rw)) (pk_rem (by omega) hr0 (by omega)) ?_
    refine ziald 1 0 (cq % rw) hx hb hK hP rfl rfl (Nat.lt_of_lt_of_le (Nat.mod_lt _ hr0) hrw) (z_lt rfl) dX4_rowOf_23 ?_
    exact ziret hend hx hb hr hlk hK hP hD hS dX4_rowOf_24 (by first | (rw [zrow, if_neg (Nat.ne_of_gt hr0)]; done) | (rw [zrow, if_pos hr0]; done)) rfl
  · have hr0 : rw = 0 := (nI_eq (a := rw) (b := 0) (by omega) (by omega)).mp c_1
    refine lv_sipush (v := 255) hx hb dX4_rowOf_7 (by decide) ?_
    refine lv_goto (tgt := 24) hx hb dX4_rowOf_10 (by decide) ?_
    exact ziret hend hx hb hr hlk hK hP hD hS dX4_rowOf_24 (by first | (rw [zrow, if_neg (Nat.ne_of_gt hr0)]; done) | (rw [zrow, if_pos hr0]; done)) rfl

abbrev rmX4_nextRow : Room := { frames := 1, cells := 0, slots := 0, locals := 21 }
set_option maxHeartbeats 4000000 in
set_option maxRecDepth 100000 in
theorem c_X4_nextRow {G : zG} (hg : zGN G) (l : Launch) (D : va_G) (cy : Nat → ClassId) (m0 : Nat) (h0 : Nat) (k0 : Nat) (yn : Nat) (pt : Nat) (ac : Nat) (ten : Int32) (rw : Nat) (fin : Int32) (add : Int32) (use : Int32) (dro : Int32) (rdt : Int32) (rrs : Int32) (a0 : Nat) (w0 : Nat) (y0 : Nat) (f0 : Nat) (d0 : Nat) (cn : Nat) (pa : Nat → Int32) (hrw : rw ≤ 6) (hcn : cn ≤ 30) : zM G D vwCl (zT cy) l yX4_nextRow wsX4_nextRow rmX4_nextRow [.ref m0] [(m0, .inr (8, [.ref h0, .ref k0, .ref yn, .ref pt, .int (nI ac), .int ten, .int (nI rw), .int fin, .int add, .int use, .int dro, .int rdt, .int rrs, .ref a0])), (k0, .inr (6, [.ref w0, .ref y0, .ref f0, .ref d0, .int (nI cn)])), (pt, .inl (cy 0, 6, .inl pa))] (some (.int (zrow pa rw cn))) [(m0, .inr (8, [.ref h0, .ref k0, .ref yn, .ref pt, .int (nI ac), .int ten, .int (nI rw), .int fin, .int add, .int use, .int dro, .int rdt, .int rrs, .ref a0])), (k0, .inr (6, [.ref w0, .ref y0, .ref f0, .ref d0, .int (nI cn)])), (pt, .inl (cy 0, 6, .inl pa))] := by
  refine zM_of (cc := cX4_nextRow) (maxL := 1) (ret := (some .int)) (by decide) rfl (Nat.le_of_ble_eq_true rfl) ?_
  intro p e s m below meth c A Q hend hx hb hml hr hts hown hlk hG hK hP hD hA hS ls hl
  have hown : s.vm.findClass RX4 = some m.cls := hown
  have in_RX4 : ∀ w ∈ u_ws RX4 TX4 14, w ∈ wsX4_nextRow := by decide +kernel
  have in_RX2 : ∀ w ∈ u_ws RX2 TX2 5, w ∈ wsX4_nextRow := by decide +kernel
  have hl : lv_has ls 1 [(0, .ref m0)] := hl
  refine lv_aload_n hx hb dX4_nextRow_0 rfl (lv_at hl 0 rfl) ?_
  refine lv_aload_n hx hb dX4_nextRow_1 rfl (lv_at hl 0 rfl) ?_
  refine va_get (D := D) (ci := 8) (v := .ref k0) (C := RX4) (T := TX4) (N := 14) hx hb hts in_RX4 hown hK hP 0 rfl rfl 1 (by decide) (hts _ (List.mem_of_getElem? (i := 1) rfl)) (fun _ h9 => h9) rfl dX4_nextRow_2 ?_
  refine va_get (D := D) (ci := 6) (v := .int (nI cn)) (C := RX2) (T := TX2) (N := 5) hx hb hts in_RX2 hown hK hP 1 rfl rfl 4 (by decide) (hts _ (List.mem_of_getElem? (i := 2) rfl)) (fun _ h9 => h9) rfl dX4_nextRow_5 ?_
  refine zcV (As := [.int (nI cn)]) (rest := []) [0, 2] 0 hg.1 ⟨hx, hb, hml, hown, hts⟩ (c_X4_rowOf hg l D cy m0 h0 k0 yn pt ac ten rw fin add use dro rdt rrs a0 pa cn (by first | assumption | omega) (by first | assumption | omega)) (cwV 1 hts gX4_nextRow_X4_rowOf rfl rfl rfl (by decide +kernel) ⟨Nat.le_of_ble_eq_true rfl, Nat.le_of_ble_eq_true rfl⟩) hG hK hP hD hS hA rfl rfl rfl rfl rfl rfl hl.1 rfl (Nat.le_of_ble_eq_true rfl) dX4_nextRow_8 ⟨Nat.zero_le _, Nat.zero_le _⟩ (fun H locs hP hD hS => ?_)
  have hP : va_P D vwCl [(m0, .inr (8, [.ref h0, .ref k0, .ref yn, .ref pt, .int (nI ac), .int ten, .int (nI rw), .int fin, .int add, .int use, .int dro, .int rdt, .int rrs, .ref a0])), (k0, .inr (6, [.ref w0, .ref y0, .ref f0, .ref d0, .int (nI cn)])), (pt, .inl (cy 0, 6, .inl pa))] H := hP
  have hD : va_D A [(m0, .inr (8, [.ref h0, .ref k0, .ref yn, .ref pt, .int (nI ac), .int ten, .int (nI rw), .int fin, .int add, .int use, .int dro, .int rdt, .int rrs, .ref a0])), (k0, .inr (6, [.ref w0, .ref y0, .ref f0, .ref d0, .int (nI cn)])), (pt, .inl (cy 0, 6, .inl pa))] := hD
  exact ziret hend hx hb hr hlk hK hP hD hS dX4_nextRow_11 rfl rfl

abbrev rmX4_yarnInFeeders : Room := { frames := 0, cells := 0, slots := 0, locals := 0 }
set_option maxHeartbeats 4000000 in
set_option maxRecDepth 100000 in
theorem c_X4_yarnInFeeders {G : zG} (hg : zGN G) (l : Launch) (D : va_G) (cy : Nat → ClassId) (m0 : Nat) (h0 : Nat) (k0 : Nat) (yn : Nat) (pt : Nat) (ac : Nat) (ten : Int32) (rw : Nat) (fin : Int32) (add : Int32) (use : Int32) (dro : Int32) (rdt : Int32) (rrs : Int32) (a0 : Nat) (ya : Nat → Int32) : zM G D vwCl (zT cy) l yX4_yarnInFeeders wsX4_yarnInFeeders rmX4_yarnInFeeders [.ref m0] [(m0, .inr (8, [.ref h0, .ref k0, .ref yn, .ref pt, .int (nI ac), .int ten, .int (nI rw), .int fin, .int add, .int use, .int dro, .int rdt, .int rrs, .ref a0])), (yn, .inl (cy 0, 4, .inl ya))] (some (.int (zsum ya 4))) [(m0, .inr (8, [.ref h0, .ref k0, .ref yn, .ref pt, .int (nI ac), .int ten, .int (nI rw), .int fin, .int add, .int use, .int dro, .int rdt, .int rrs, .ref a0])), (yn, .inl (cy 0, 4, .inl ya))] := by
  refine zM_of (cc := cX4_yarnInFeeders) (maxL := 3) (ret := (some .int)) (by decide) rfl (Nat.le_of_ble_eq_true rfl) ?_
  intro p e s m below meth c A Q hend hx hb hml hr hts hown hlk hG hK hP hD hA hS ls hl
  have hown : s.vm.findClass RX4 = some m.cls := hown
  have in_RX4 : ∀ w ∈ u_ws RX4 TX4 14, w ∈ wsX4_yarnInFeeders := by decide +kernel
  have hl : lv_has ls 3 [(0, .ref m0)] := hl
  refine lv_iconst (v := 0) hx hb dX4_yarnInFeeders_0 (by decide) ?_
  refine lv_istore_n (lv' := [(1, .int 0), (0, .ref m0)]) hx hb dX4_yarnInFeeders_1 rfl hl (by decide) rfl (fun ls hl => ?_)
  refine lv_iconst (v := 0) hx hb dX4_yarnInFeeders_2 (by decide) ?_
  refine lv_istore_n (lv' := [(2, .int 0), (1, .int 0), (0, .ref m0)]) hx hb dX4_yarnInFeeders_3 rfl hl (by decide) rfl (fun ls hl => ?_)
  have L4 : ∀ (F : Nat) (k : Nat) (x4_0 : Int32), k ≤ 4 → 4 - k < F → x4_0 = zsum ya k → ∀ (H : Heap) (locs : List Loc), va_P D vwCl [(m0, .inr (8, [.ref h0, .ref k0, .ref yn, .ref pt, .int (nI ac), .int ten, .int (nI rw), .int fin, .int add, .int use, .int dro, .int rdt, .int rrs, .ref a0])), (yn, .inl (cy 0, 4, .inl ya))] H → va_D A [(m0, .inr (8, [.ref h0, .ref k0, .ref yn, .ref pt, .int (nI ac), .int ten, .int (nI rw), .int fin, .int add, .int use, .int dro, .int rdt, .int rrs, .ref a0])), (yn, .inl (cy 0, 4, .inl ya))] → va_S A s.heap H locs → ∀ ls : Array Slot, lv_has ls 3 [(0, .ref m0), (1, .int x4_0), (2, .int (nI k))] → W p l e rmX4_yarnInFeeders s m ([.ref m0] : List Value).toArray below meth c H locs 0 0 Q (F0 m 4 ls []) := by
    intro F
    induction F with
    | zero =>
      intro k x4_0 hk hF ex4_0 H locs hP hD hS ls hl
      exact absurd hF (Nat.not_lt_zero _)
    | succ F ih4 =>
      intro k x4_0 hk hF ex4_0 H locs hP hD hS ls hl
      subst ex4_0
      refine lv_iload_n hx hb dX4_yarnInFeeders_4 rfl (lv_at hl 2 rfl) ?_
      refine lv_iconst (v := 4) hx hb dX4_yarnInFeeders_5 (by decide) ?_
      refine lv_icmp_ge (tgt := 24) hx hb dX4_yarnInFeeders_6 (by decide) (fun c_1 => ?_) (fun c_1 => ?_)
      · have hk2 : 4 ≤ k := (nI_leI (by omega) (by omega)).mp c_1
        obtain rfl : 4 = k := by omega
        refine lv_iload_n hx hb dX4_yarnInFeeders_24 rfl (lv_at hl 1 rfl) ?_
        exact ziret hend hx hb hr hlk hK hP hD hS dX4_yarnInFeeders_25 rfl rfl
      · have hk2 : k < 4 := Nat.lt_of_not_le (fun z => c_1 (nI_le z (by omega)))
        refine lv_iload_n hx hb dX4_yarnInFeeders_9 rfl (lv_at hl 1 rfl) ?_
        refine lv_aload_n hx hb dX4_yarnInFeeders_10 rfl (lv_at hl 0 rfl) ?_
        refine va_get (D := D) (ci := 8) (v := .ref yn) (C := RX4) (T := TX4) (N := 14) hx hb hts in_RX4 hown hK hP 0 rfl rfl 2 (by decide) (hts _ (List.mem_of_getElem? (i := 1) rfl)) (fun _ h9 => h9) rfl dX4_yarnInFeeders_11 ?_
        refine lv_iload_n hx hb dX4_yarnInFeeders_14 rfl (lv_at hl 2 rfl) ?_
        refine ziald 1 0 k hx hb hK hP rfl rfl (by omega) (z_lt rfl) dX4_yarnInFeeders_15 ?_
        refine lv_iadd hx hb dX4_yarnInFeeders_16 ?_
        refine lv_istore_n (lv' := [(1, .int ((zsum ya k) + (ya k))), (0, .ref m0), (2, .int (nI k))]) hx hb dX4_yarnInFeeders_17 rfl hl (by decide) rfl (fun ls hl => ?_)
        refine lv_iinc (v := nI (k + 1)) (lv' := [(2, .int (nI (k + 1))), (1, .int ((zsum ya k) + (ya k))), (0, .ref m0)]) hx hb dX4_yarnInFeeders_18 hl (k := 2) rfl (by rw [show Int32.ofInt 1 = nI 1 from rfl, nI_add]) (by decide) rfl (fun ls hl => ?_)
        refine lv_goto (tgt := 4) hx hb dX4_yarnInFeeders_21 (by decide) ?_
        exact ih4 (k + 1) ((zsum ya k) + (ya k)) (by omega) (by omega) (by rfl) H locs hP hD hS ls (lv_sub hl [2, 1, 0] rfl)
  exact L4 (4 - 0 + 1) 0 0 (by omega) (Nat.lt_succ_self _) (by rfl) s.heap [] hP hD hS ls (lv_sub hl [2, 1, 0] rfl)

abbrev rmX4_positionOf : Room := { frames := 0, cells := 0, slots := 0, locals := 0 }
set_option maxHeartbeats 4000000 in
set_option maxRecDepth 100000 in
theorem c_X4_positionOf {G : zG} (hg : zGN G) (l : Launch) (D : va_G) (cy : Nat → ClassId) (m0 : Nat) (h0 : Nat) (k0 : Nat) (yn : Nat) (pt : Nat) (ac : Nat) (ten : Int32) (rw : Nat) (fin : Int32) (add : Int32) (use : Int32) (dro : Int32) (rdt : Int32) (rrs : Int32) (a0 : Nat) (ya : Nat → Int32) (i : Nat) (hi : i < 4) : zM G D vwCl (zT cy) l yX4_positionOf wsX4_positionOf rmX4_positionOf [.ref m0, .int (nI i)] [(m0, .inr (8, [.ref h0, .ref k0, .ref yn, .ref pt, .int (nI ac), .int ten, .int (nI rw), .int fin, .int add, .int use, .int dro, .int rdt, .int rrs, .ref a0])), (yn, .inl (cy 0, 4, .inl ya))] (some (.int (zpy ya i 4))) [(m0, .inr (8, [.ref h0, .ref k0, .ref yn, .ref pt, .int (nI ac), .int ten, .int (nI rw), .int fin, .int add, .int use, .int dro, .int rdt, .int rrs, .ref a0])), (yn, .inl (cy 0, 4, .inl ya))] := by
  refine zM_of (cc := cX4_positionOf) (maxL := 4) (ret := (some .int)) (by decide) rfl (Nat.le_of_ble_eq_true rfl) ?_
  intro p e s m below meth c A Q hend hx hb hml hr hts hown hlk hG hK hP hD hA hS ls hl
  have hown : s.vm.findClass RX4 = some m.cls := hown
  have in_RX4 : ∀ w ∈ u_ws RX4 TX4 14, w ∈ wsX4_positionOf := by decide +kernel
  have hl : lv_has ls 4 [(0, .ref m0), (1, .int (nI i))] := hl
  refine lv_iconst (v := 0) hx hb dX4_positionOf_0 (by decide) ?_
  refine lv_istore_n (lv' := [(2, .int 0), (0, .ref m0), (1, .int (nI i))]) hx hb dX4_positionOf_1 rfl hl (by decide) rfl (fun ls hl => ?_)
  refine lv_iconst (v := 0) hx hb dX4_positionOf_2 (by decide) ?_
  refine lv_istore_n (lv' := [(3, .int 0), (2, .int 0), (0, .ref m0), (1, .int (nI i))]) hx hb dX4_positionOf_3 rfl hl (by decide) rfl (fun ls hl => ?_)
  have L4 : ∀ (F : Nat) (k : Nat) (x4_0 : Int32), k ≤ 4 → 4 - k < F → x4_0 = zpy ya i k → ∀ (H : Heap) (locs : List Loc), va_P D vwCl [(m0, .inr (8, [.ref h0, .ref k0, .ref yn, .ref pt, .int (nI ac), .int ten, .int (nI rw), .int fin, .int add, .int use, .int dro, .int rdt, .int rrs, .ref a0])), (yn, .inl (cy 0, 4, .inl ya))] H → va_D A [(m0, .inr (8, [.ref h0, .ref k0, .ref yn, .ref pt, .int (nI ac), .int ten, .int (nI rw), .int fin, .int add, .int use, .int dro, .int rdt, .int rrs, .ref a0])), (yn, .inl (cy 0, 4, .inl ya))] → va_S A s.heap H locs → ∀ ls : Array Slot, lv_has ls 4 [(0, .ref m0), (1, .int (nI i)), (2, .int x4_0), (3, .int (nI k))] → W p l e rmX4_positionOf s m ([.ref m0, .int (nI i)] : List Value).toArray below meth c H locs 0 0 Q (F0 m 4 ls []) := by
    intro F
    induction F with
    | zero =>
      intro k x4_0 hk hF ex4_0 H locs hP hD hS ls hl
      exact absurd hF (Nat.not_lt_zero _)
    | succ F ih4 =>
      intro k x4_0 hk hF ex4_0 H locs hP hD hS ls hl
      subst ex4_0
      refine lv_iload_n hx hb dX4_positionOf_4 rfl (lv_at hl 3 rfl) ?_
      refine lv_iconst (v := 4) hx hb dX4_positionOf_5 (by decide) ?_
      refine lv_icmp_ge (tgt := 53) hx hb dX4_positionOf_6 (by decide) (fun c_1 => ?_) (fun c_1 => ?_)
      · have hk2 : 4 ≤ k := (nI_leI (by omega) (by omega)).mp c_1
        obtain rfl : 4 = k := by omega
        refine lv_iload_n hx hb dX4_positionOf_53 rfl (lv_at hl 2 rfl) ?_
        exact ziret hend hx hb hr hlk hK hP hD hS dX4_positionOf_54 rfl rfl
      · have hk2 : k < 4 := Nat.lt_of_not_le (fun z => c_1 (nI_le z (by omega)))
        refine lv_aload_n hx hb dX4_positionOf_9 rfl (lv_at hl 0 rfl) ?_
        refine va_get (D := D) (ci := 8) (v := .ref yn) (C := RX4) (T := TX4) (N := 14) hx hb hts in_RX4 hown hK hP 0 rfl rfl 2 (by decide) (hts _ (List.mem_of_getElem? (i := 1) rfl)) (fun _ h9 => h9) rfl dX4_positionOf_10 ?_
        refine lv_iload_n hx hb dX4_positionOf_13 rfl (lv_at hl 3 rfl) ?_
        refine ziald 1 0 k hx hb hK hP rfl rfl (by omega) (z_lt rfl) dX4_positionOf_14 ?_
        refine lv_aload_n hx hb dX4_positionOf_15 rfl (lv_at hl 0 rfl) ?_
        refine va_get (D := D) (ci := 8) (v := .ref yn) (C := RX4) (T := TX4) (N := 14) hx hb hts in_RX4 hown hK hP 0 rfl rfl 2 (by decide) (hts _ (List.mem_of_getElem? (i := 1) rfl)) (fun _ h9 => h9) rfl dX4_positionOf_16 ?_
        refine lv_iload_n hx hb dX4_positionOf_19 rfl (lv_at hl 1 rfl) ?_
        refine ziald 1 0 i hx hb hK hP rfl rfl (by omega) (z_lt rfl) dX4_positionOf_20 ?_
        refine lv_icmp_gt (tgt := 44) hx hb dX4_positionOf_21 (by decide) (fun c_2 => ?_) (fun c_2 => ?_)
        · refine lv_iinc (v := zpy ya i k + 1) (lv' := [(2, .int (zpy ya i k + 1)), (0, .ref m0), (1, .int (nI i)), (3, .int (nI k))]) hx hb dX4_positionOf_44 hl (k := 2) rfl (rfl) (by decide) rfl (fun ls hl => ?_)
          refine lv_iinc (v := nI (k + 1)) (lv' := [(3, .int (nI (k + 1))), (2, .int (zpy ya i k + 1)), (0, .ref m0), (1, .int (nI i))]) hx hb dX4_positionOf_47 hl (k := 3) rfl (by rw [show Int32.ofInt 1 = nI 1 from rfl, nI_add]) (by decide) rfl (fun ls hl => ?_)
          refine lv_goto (tgt := 4) hx hb dX4_positionOf_50 (by decide) ?_
          exact ih4 (k + 1) (zpy ya i k + 1) (by omega) (by omega) (by first | (simp only [zpy, zyb, c_1, c_2, decide_true, decide_false, Bool.not_true, Bool.not_false, Bool.and_true, Bool.true_and, Bool.and_false, Bool.false_and, Bool.or_false, Bool.false_or, Bool.or_true, Bool.true_or, ↓reduceIte, Bool.false_eq_true, not_true_eq_false, not_false_eq_true, and_self]; done) | (simp [zpy, zyb, c_1, c_2]; done) | (simp_all [zpy, zyb]; done)) H locs hP hD hS ls (lv_sub hl [2, 3, 1, 0] rfl)
        · refine lv_aload_n hx hb dX4_positionOf_24 rfl (lv_at hl 0 rfl) ?_
          refine va_get (D := D) (ci := 8) (v := .ref yn) (C := RX4) (T := TX4) (N := 14) hx hb hts in_RX4 hown hK hP 0 rfl rfl 2 (by decide) (hts _ (List.mem_of_getElem? (i := 1) rfl)) (fun _ h9 => h9) rfl dX4_positionOf_25 ?_
          refine lv_iload_n hx hb dX4_positionOf_28 rfl (lv_at hl 3 rfl) ?_
          refine ziald 1 0 k hx hb hK hP rfl rfl (by omega) (z_lt rfl) dX4_positionOf_29 ?_
          refine lv_aload_n hx hb dX4_positionOf_30 rfl (lv_at hl 0 rfl) ?_
          refine va_get (D := D) (ci := 8) (v := .ref yn) (C := RX4) (T := TX4) (N := 14) hx hb hts in_RX4 hown hK hP 0 rfl rfl 2 (by decide) (hts _ (List.mem_of_getElem? (i := 1) rfl)) (fun _ h9 => h9) rfl dX4_positionOf_31 ?_
          refine lv_iload_n hx hb dX4_positionOf_34 rfl (lv_at hl 1 rfl) ?_
          refine ziald 1 0 i hx hb hK hP rfl rfl (by omega) (z_lt rfl) dX4_positionOf_35 ?_
          refine lv_icmp_ne (tgt := 47) hx hb dX4_positionOf_36 (by decide) (fun c_3 => ?_) (fun c_3 => ?_)
          · refine lv_iinc (v := nI (k + 1)) (lv' := [(3, .int (nI (k + 1))), (0, .ref m0), (1, .int (nI i)), (2, .int (zpy ya i k))]) hx hb dX4_positionOf_47 hl (k := 3) rfl (by rw [show Int32.ofInt 1 = nI 1 from rfl, nI_add]) (by decide) rfl (fun ls hl => ?_)
            refine lv_goto (tgt := 4) hx hb dX4_positionOf_50 (by decide) ?_
            exact ih4 (k + 1) (zpy ya i k) (by omega) (by omega) (by first | (simp only [zpy, zyb, c_1, c_2, c_3, decide_true, decide_false, Bool.not_true, Bool.not_false, Bool.and_true, Bool.true_and, Bool.and_false, Bool.false_and, Bool.or_false, Bool.false_or, Bool.or_true, Bool.true_or, ↓reduceIte, Bool.false_eq_true, not_true_eq_false, not_false_eq_true, and_self]; done) | (simp [zpy, zyb, c_1, c_2, c_3]; done) | (simp_all [zpy, zyb]; done)) H locs hP hD hS ls (lv_sub hl [1, 2, 3, 0] rfl)
          · refine lv_iload_n hx hb dX4_positionOf_39 rfl (lv_at hl 3 rfl) ?_
            refine lv_iload_n hx hb dX4_positionOf_40 rfl (lv_at hl 1 rfl) ?_
            refine lv_icmp_ge (tgt := 47) hx hb dX4_positionOf_41 (by decide) (fun c_4 => ?_) (fun c_4 => ?_)
            · refine lv_iinc (v := nI (k + 1)) (lv' := [(3, .int (nI (k + 1))), (0, .ref m0), (1, .int (nI i)), (2, .int (zpy ya i k))]) hx hb dX4_positionOf_47 hl (k := 3) rfl (by rw [show Int32.ofInt 1 = nI 1 from rfl, nI_add]) (by decide) rfl (fun ls hl => ?_)
              refine lv_goto (tgt := 4) hx hb dX4_positionOf_50 (by decide) ?_
              exact ih4 (k + 1) (zpy ya i k) (by omega) (by omega) (by first | (simp only [zpy, zyb, c_1, c_2, c_3, c_4, decide_true, decide_false, Bool.not_true, Bool.not_false, Bool.and_true, Bool.true_and, Bool.and_false, Bool.false_and, Bool.or_false, Bool.false_or, Bool.or_true, Bool.true_or, ↓reduceIte, Bool.false_eq_true, not_true_eq_false, not_false_eq_true, and_self]; done) | (simp [zpy, zyb, c_1, c_2, c_3, c_4]; done) | (simp_all [zpy, zyb]; done)) H locs hP hD hS ls (lv_sub hl [1, 2, 3, 0] rfl)
            · refine lv_iinc (v := zpy ya i k + 1) (lv' := [(2, .int (zpy ya i k + 1)), (0, .ref m0), (1, .int (nI i)), (3, .int (nI k))]) hx hb dX4_positionOf_44 hl (k := 2) rfl (rfl) (by decide) rfl (fun ls hl => ?_)
              refine lv_iinc (v := nI (k + 1)) (lv' := [(3, .int (nI (k + 1))), (2, .int (zpy ya i k + 1)), (0, .ref m0), (1, .int (nI i))]) hx hb dX4_positionOf_47 hl (k := 3) rfl (by rw [show Int32.ofInt 1 = nI 1 from rfl, nI_add]) (by decide) rfl (fun ls hl => ?_)
              refine lv_goto (tgt := 4) hx hb dX4_positionOf_50 (by decide) ?_
              exact ih4 (k + 1) (zpy ya i k + 1) (by omega) (by omega) (by first | (simp only [zpy, zyb, c_1, c_2, c_3, c_4, decide_true, decide_false, Bool.not_true, Bool.not_false, Bool.and_true, Bool.true_and, Bool.and_false, Bool.false_and, Bool.or_false, Bool.false_or, Bool.or_true, Bool.true_or, ↓reduceIte, Bool.false_eq_true, not_true_eq_false, not_false_eq_true, and_self]; done) | (simp [zpy, zyb, c_1, c_2, c_3, c_4]; done) | (simp_all [zpy, zyb]; done)) H locs hP hD hS ls (lv_sub hl [2, 3, 1, 0] rfl)
  exact L4 (4 - 0 + 1) 0 0 (by omega) (Nat.lt_succ_self _) (by rfl) s.heap [] hP hD hS ls (lv_sub hl [2, 3, 1, 0] rfl)

abbrev rmX4_feederAt : Room := { frames := 1, cells := 0, slots := 0, locals := 23 }
set_option maxHeartbeats 4000000 in
set_option maxRecDepth 100000 in
theorem c_X4_feederAt {G : zG} (hg : zGN G) (l : Launch) (D : va_G) (cy : Nat → ClassId) (m0 : Nat) (h0 : Nat) (k0 : Nat) (yn : Nat) (pt : Nat) (ac : Nat) (ten : Int32) (rw : Nat) (fin : Int32) (add : Int32) (use : Int32) (dro : Int32) (rdt : Int32) (rrs : Int32) (a0 : Nat) (ya : Nat → Int32) (ps : Int32) : zM G D vwCl (zT cy) l yX4_feederAt wsX4_feederAt rmX4_feederAt [.ref m0, .int ps] [(m0, .inr (8, [.ref h0, .ref k0, .ref yn, .ref pt, .int (nI ac), .int ten, .int (nI rw), .int fin, .int add, .int use, .int dro, .int rdt, .int rrs, .ref a0])), (yn, .inl (cy 0, 4, .inl ya))] (some (.int (zfi (fun q => decide (zpy ya q 4 = ps)) 4 0))) [(m0, .inr (8, [.ref h0, .ref k0, .ref yn, .ref pt, .int (nI ac), .int ten, .int (nI rw), .int fin, .int add, .int use, .int dro, .int rdt, .int rrs, .ref a0])), (yn, .inl (cy 0, 4, .inl ya))] := by
  refine zM_of (cc := cX4_feederAt) (maxL := 3) (ret := (some .int)) (by decide) rfl (Nat.le_of_ble_eq_true rfl) ?_
  intro p e s m below meth c A Q hend hx hb hml hr hts hown hlk hG hK hP hD hA hS ls hl
  have hown : s.vm.findClass RX4 = some m.cls := hown
  have hl : lv_has ls 3 [(0, .ref m0), (1, .int ps)] := hl
  refine lv_iconst (v := 0) hx hb dX4_feederAt_0 (by decide) ?_
  refine lv_istore_n (lv' := [(2, .int 0), (0, .ref m0), (1, .int ps)]) hx hb dX4_feederAt_1 rfl hl (by decide) rfl (fun ls hl => ?_)
  have L2 : ∀ (F : Nat) (k : Nat), k ≤ 4 → zfi (fun q => decide (zpy ya q 4 = ps)) 4 0 = zfi (fun q => decide (zpy ya q 4 = ps)) (4 - k) k → 4 - k < F → ∀ (H : Heap) (locs : List Loc), va_P D vwCl [(m0, .inr (8, [.ref h0, .ref k0, .ref yn, .ref pt, .int (nI ac), .int ten, .int (nI rw), .int fin, .int add, .int use, .int dro, .int rdt, .int rrs, .ref a0])), (yn, .inl (cy 0, 4, .inl ya))] H → va_D A [(m0, .inr (8, [.ref h0, .ref k0, .ref yn, .ref pt, .int (nI ac), .int ten, .int (nI rw), .int fin, .int add, .int use, .int dro, .int rdt, .int rrs, .ref a0])), (yn, .inl (cy 0, 4, .inl ya))] → va_S A s.heap H locs → ∀ ls : Array Slot, lv_has ls 3 [(0, .ref m0), (1, .int ps), (2, .int (nI k))] → W p l e rmX4_feederAt s m ([.ref m0, .int ps] : List Value).toArray below meth c H locs 0 0 Q (F0 m 2 ls []) := by
    intro F
    induction F with
    | zero =>
      intro k hk hr2 hF H locs hP hD hS ls hl
      exact absurd hF (Nat.not_lt_zero _)
    | succ F ih2 =>
      intro k hk hr2 hF H locs hP hD hS ls hl
      refine lv_iload_n hx hb dX4_feederAt_2 rfl (lv_at hl 2 rfl) ?_
      refine lv_iconst (v := 4) hx hb dX4_feederAt_3 (by decide) ?_
      refine lv_icmp_ge (tgt := 24) hx hb dX4_feederAt_4 (by decide) (fun c_1 => ?_) (fun c_1 => ?_)
      · have hk2 : 4 ≤ k := (nI_leI (by omega) (by omega)).mp c_1
        obtain rfl : 4 = k := by omega
        refine lv_iconst (v := (-1)) hx hb dX4_feederAt_24 (by decide) ?_
        exact ziret hend hx hb hr hlk hK hP hD hS dX4_feederAt_25 (by first | (rw [hr2, show 4 - k = (4 - (k + 1)) + 1 by omega, zfi]; simp [c_1]; done) | (rw [hr2, Nat.sub_self]; rfl)) rfl
      · have hk2 : k < 4 := Nat.lt_of_not_le (fun z => c_1 (nI_le z (by omega)))
        refine lv_aload_n hx hb dX4_feederAt_7 rfl (lv_at hl 0 rfl) ?_
        refine lv_iload_n hx hb dX4_feederAt_8 rfl (lv_at hl 2 rfl) ?_
        refine zcV (As := [.int (nI k)]) (rest := []) [0, 1] 0 hg.1 ⟨hx, hb, hml, hown, hts⟩ (c_X4_positionOf hg l D cy m0 h0 k0 yn pt ac ten rw fin add use dro rdt rrs a0 ya k (by first | assumption | omega)) (cwV 1 hts gX4_feederAt_X4_positionOf rfl rfl rfl (by decide +kernel) ⟨Nat.le_of_ble_eq_true rfl, Nat.le_of_ble_eq_true rfl⟩) hG hK hP hD hS hA rfl rfl rfl rfl rfl rfl hl.1 rfl (Nat.le_of_ble_eq_true rfl) dX4_feederAt_9 ⟨Nat.zero_le _, Nat.zero_le _⟩ (fun H locs hP hD hS => ?_)
        have hP : va_P D vwCl [(m0, .inr (8, [.ref h0, .ref k0, .ref yn, .ref pt, .int (nI ac), .int ten, .int (nI rw), .int fin, .int add, .int use, .int dro, .int rdt, .int rrs, .ref a0])), (yn, .inl (cy 0, 4, .inl ya))] H := hP
        have hD : va_D A [(m0, .inr (8, [.ref h0, .ref k0, .ref yn, .ref pt, .int (nI ac), .int ten, .int (nI rw), .int fin, .int add, .int use, .int dro, .int rdt, .int rrs, .ref a0])), (yn, .inl (cy 0, 4, .inl ya))] := hD
        refine lv_iload_n hx hb dX4_feederAt_12 rfl (lv_at hl 1 rfl) ?_
        refine lv_icmp_ne (tgt := 18) hx hb dX4_feederAt_13 (by decide) (fun c_2 => ?_) (fun c_2 => ?_)
        · refine lv_iinc (v := nI (k + 1)) (lv' := [(2, .int (nI (k + 1))), (0, .ref m0), (1, .int ps)]) hx hb dX4_feederAt_18 hl (k := 2) rfl (by rw [show Int32.ofInt 1 = nI 1 from rfl, nI_add]) (by decide) rfl (fun ls hl => ?_)
          refine lv_goto (tgt := 2) hx hb dX4_feederAt_21 (by decide) ?_
          exact ih2 (k + 1) (by omega) (by rw [hr2, show 4 - k = (4 - (k + 1)) + 1 by omega, zfi]; simp [c_1, c_2]) (by omega) H locs hP hD hS ls (lv_sub hl [1, 2, 0] rfl)
        · refine lv_iload_n hx hb dX4_feederAt_16 rfl (lv_at hl 2 rfl) ?_
          exact ziret hend hx hb hr hlk hK hP hD hS dX4_feederAt_17 (by first | (rw [hr2, show 4 - k = (4 - (k + 1)) + 1 by omega, zfi]; simp [c_1, c_2]; done) | (rw [hr2, Nat.sub_self]; rfl)) rfl
  exact L2 (4 - 0 + 1) 0 (by omega) rfl (Nat.lt_succ_self _) s.heap [] hP hD hS ls (lv_sub hl [1, 2, 0] rfl)

abbrev rmX4_refuse : Room := { frames := 0, cells := 0, slots := 0, locals := 0 }
set_option maxHeartbeats 4000000 in
set_option maxRecDepth 100000 in
theorem c_X4_refuse {G : zG} (hg : zGN G) (l : Launch) (D : va_G) (cy : Nat → ClassId) (m0 : Nat) (h0 : Nat) (k0 : Nat) (yn : Nat) (pt : Nat) (ac : Nat) (ten : Int32) (rw : Nat) (fin : Int32) (add : Int32) (use : Int32) (dro : Int32) (rdt : Int32) (rrs : Int32) (a0 : Nat) (rs : Int32) (dt : Int32) : zM G D vwCl (zT cy) l yX4_refuse wsX4_refuse rmX4_refuse [.ref m0, .int rs, .int dt] [(m0, .inr (8, [.ref h0, .ref k0, .ref yn, .ref pt, .int (nI ac), .int ten, .int (nI rw), .int fin, .int add, .int use, .int dro, .int rdt, .int rrs, .ref a0]))] (some (.int rs)) [(m0, .inr (8, [.ref h0, .ref k0, .ref yn, .ref pt, .int (nI ac), .int ten, .int (nI rw), .int fin, .int add, .int use, .int dro, .int dt, .int rs, .ref a0]))] := by
  refine zM_of (cc := cX4_refuse) (maxL := 3) (ret := (some .int)) (by decide) rfl (Nat.le_of_ble_eq_true rfl) ?_
  intro p e s m below meth c A Q hend hx hb hml hr hts hown hlk hG hK hP hD hA hS ls hl
  have hown : s.vm.findClass RX4 = some m.cls := hown
  have in_RX4 : ∀ w ∈ u_ws RX4 TX4 14, w ∈ wsX4_refuse := by decide +kernel
  have hl : lv_has ls 3 [(0, .ref m0), (1, .int rs), (2, .int dt)] := hl
  refine lv_aload_n hx hb dX4_refuse_0 rfl (lv_at hl 0 rfl) ?_
  refine lv_iload_n hx hb dX4_refuse_1 rfl (lv_at hl 1 rfl) ?_
  refine va_put (D := D) (ci := 8) (v := .int rs) (ty := .int) (C := RX4) (T := TX4) (N := 14) hx hb hts in_RX4 tyX4 tyX4_ok nmX4 hown hK hP hD hS 0 rfl rfl 12 (by decide) (hts _ (List.mem_of_getElem? (i := 1) rfl)) (fun _ h9 => h9) rfl (by decide +kernel) rfl rfl (Nat.le_of_ble_eq_true rfl) dX4_refuse_2 (fun H locs hP hD hS => ?_)
  have hP : va_P D vwCl [(m0, .inr (8, [.ref h0, .ref k0, .ref yn, .ref pt, .int (nI ac), .int ten, .int (nI rw), .int fin, .int add, .int use, .int dro, .int rdt, .int rs, .ref a0]))] H := hP
  have hD : va_D A [(m0, .inr (8, [.ref h0, .ref k0, .ref yn, .ref pt, .int (nI ac), .int ten, .int (nI rw), .int fin, .int add, .int use, .int dro, .int rdt, .int rs, .ref a0]))] := hD
  refine lv_aload_n hx hb dX4_refuse_5 rfl (lv_at hl 0 rfl) ?_
  refine lv_iload_n hx hb dX4_refuse_6 rfl (lv_at hl 2 rfl) ?_
  refine va_put (D := D) (ci := 8) (v := .int dt) (ty := .int) (C := RX4) (T := TX4) (N := 14) hx hb hts in_RX4 tyX4 tyX4_ok nmX4 hown hK hP hD hS 0 rfl rfl 11 (by decide) (hts _ (List.mem_of_getElem? (i := 2) rfl)) (fun _ h9 => h9) rfl (by decide +kernel) rfl rfl (Nat.le_of_ble_eq_true rfl) dX4_refuse_7 (fun H locs hP hD hS => ?_)
  have hP : va_P D vwCl [(m0, .inr (8, [.ref h0, .ref k0, .ref yn, .ref pt, .int (nI ac), .int ten, .int (nI rw), .int fin, .int add, .int use, .int dro, .int dt, .int rs, .ref a0]))] H := hP
  have hD : va_D A [(m0, .inr (8, [.ref h0, .ref k0, .ref yn, .ref pt, .int (nI ac), .int ten, .int (nI rw), .int fin, .int add, .int use, .int dro, .int dt, .int rs, .ref a0]))] := hD
  refine lv_iload_n hx hb dX4_refuse_10 rfl (lv_at hl 1 rfl) ?_
  exact ziret hend hx hb hr hlk hK hP hD hS dX4_refuse_11 rfl rfl

abbrev rmX4_refusalOfCourse : Room := { frames := 1, cells := 0, slots := 0, locals := 22 }
set_option maxHeartbeats 4000000 in
set_option maxRecDepth 100000 in
theorem c_X4_refusalOfCourse {G : zG} (hg : zGN G) (l : Launch) (D : va_G) (cy : Nat → ClassId) (m0 : Nat) (h0 : Nat) (k0 : Nat) (yn : Nat) (pt : Nat) (ac : Nat) (ten : Int32) (rw : Nat) (fin : Int32) (add : Int32) (use : Int32) (dro : Int32) (rdt : Int32) (rrs : Int32) (a0 : Nat) (cq : Nat) (nd : Int32) (yl : Int32) (hcq : cq < 1000) : zM G D vwCl (zT cy) l yX4_refusalOfCourse wsX4_refusalOfCourse rmX4_refusalOfCourse [.ref m0, .int (nI cq), .int nd, .int yl] [(m0, .inr (8, [.ref h0, .ref k0, .ref yn, .ref pt, .int (nI ac), .int ten, .int (nI rw), .int fin, .int add, .int use, .int dro, .int rdt, .int rrs, .ref a0]))] (some (.int (zrc cq nd yl))) [(m0, .inr (8, [.ref h0, .ref k0, .ref yn, .ref pt, .int (nI ac), .int ten, .int (nI rw), .int fin, .int add, .int use, .int dro, .int (zrcd cq nd yl rdt), .int (zrcr cq nd yl rrs), .ref a0]))] := by
  refine zM_of (cc := cX4_refusalOfCourse) (maxL := 4) (ret := (some .int)) (by decide) rfl (Nat.le_of_ble_eq_true rfl) ?_
  intro p e s m below meth c A Q hend hx hb hml hr hts hown hlk hG hK hP hD hA hS ls hl
  have hown : s.vm.findClass RX4 = some m.cls := hown
  have hl : lv_has ls 4 [(0, .ref m0), (1, .int (nI cq)), (2, .int nd), (3, .int yl)] := hl
  refine lv_iload_n hx hb dX4_refusalOfCourse_0 rfl (lv_at hl 1 rfl) ?_
  refine lv_bipush (v := 30) hx hb dX4_refusalOfCourse_1 (by decide) ?_
  refine lv_icmp_lt (tgt := 15) hx hb dX4_refusalOfCourse_3 (by decide) (fun c_1 => ?_) (fun c_1 => ?_)
  · have hc3 : ¬ 30 ≤ cq := Nat.not_le.mpr ((nI_ltI (b := 30) (by omega) (by omega)).mp c_1)
    refine lv_iload_n hx hb dX4_refusalOfCourse_15 rfl (lv_at hl 2 rfl) ?_
    refine lv_if_ne (tgt := 27) hx hb dX4_refusalOfCourse_16 (by decide) (fun c_2 => ?_) (fun c_2 => ?_)
    · refine lv_iload_n hx hb dX4_refusalOfCourse_27 rfl (lv_at hl 2 rfl) ?_
      refine lv_iload_n hx hb dX4_refusalOfCourse_28 rfl (lv_at hl 3 rfl) ?_
      refine lv_icmp_le (tgt := 42) hx hb dX4_refusalOfCourse_29 (by decide) (fun c_3 => ?_) (fun c_3 => ?_)
      · refine lv_iconst (v := 0) hx hb dX4_refusalOfCourse_42 (by decide) ?_
        exact ziret hend hx hb hr hlk hK hP hD hS dX4_refusalOfCourse_43 (by first | (simp only [zrc, hc3, c_1, c_2, c_3, decide_true, decide_false, Bool.not_true, Bool.not_false, Bool.and_true, Bool.true_and, Bool.and_false, Bool.false_and, Bool.or_false, Bool.false_or, Bool.or_true, Bool.true_or, ↓reduceIte, Bool.false_eq_true, not_true_eq_false, not_false_eq_true, and_self]; done) | (simp [zrc, hc3, c_1, c_2, c_3]; done) | (simp_all [zrc, hc3]; done)) (by first | (simp only [zrcd, zrcr, hc3, c_1, c_2, c_3, decide_true, decide_false, Bool.not_true, Bool.not_false, Bool.and_true, Bool.true_and, Bool.and_false, Bool.false_and, Bool.or_false, Bool.false_or, Bool.or_true, Bool.true_or, ↓reduceIte, Bool.false_eq_true, not_true_eq_false, not_false_eq_true, and_self]; done) | (simp [zrcd, zrcr, hc3, c_1, c_2, c_3]; done) | (simp_all [zrcd, zrcr, hc3]; done))
      · refine lv_aload_n hx hb dX4_refusalOfCourse_32 rfl (lv_at hl 0 rfl) ?_
        refine lv_bipush (v := 10) hx hb dX4_refusalOfCourse_33 (by decide) ?_
        refine lv_iload_n hx hb dX4_refusalOfCourse_35 rfl (lv_at hl 2 rfl) ?_
        refine zcV (As := [.int 10, .int nd]) (rest := []) [0] 0 hg.1 ⟨hx, hb, hml, hown, hts⟩ (c_X4_refuse hg l D cy m0 h0 k0 yn pt ac ten rw fin add use dro rdt rrs a0 10 nd) (cwV 2 hts gX4_refusalOfCourse_X4_refuse rfl rfl rfl (by decide +kernel) ⟨Nat.le_of_ble_eq_true rfl, Nat.le_of_ble_eq_true rfl⟩) hG hK hP hD hS hA rfl rfl (Eq.trans (b := [m0]) rfl rfl) rfl rfl rfl hl.1 rfl (Nat.le_of_ble_eq_true rfl) dX4_refusalOfCourse_36 ⟨Nat.zero_le _, Nat.zero_le _⟩ (fun H locs hP hD hS => ?_)
        have hP : va_P D vwCl [(m0, .inr (8, [.ref h0, .ref k0, .ref yn, .ref pt, .int (nI ac), .int ten, .int (nI rw), .int fin, .int add, .int use, .int dro, .int nd, .int 10, .ref a0]))] H := hP
        have hD : va_D A [(m0, .inr (8, [.ref h0, .ref k0, .ref yn, .ref pt, .int (nI ac), .int ten, .int (nI rw), .int fin, .int add, .int use, .int dro, .int nd, .int 10, .ref a0]))] := hD
        refine lv_goto (tgt := 43) hx hb dX4_refusalOfCourse_39 (by decide) ?_
        exact ziret hend hx hb hr hlk hK hP hD hS dX4_refusalOfCourse_43 (by first | (simp only [zrc, hc3, c_1, c_2, c_3, decide_true, decide_false, Bool.not_true, Bool.not_false, Bool.and_true, Bool.true_and, Bool.and_false, Bool.false_and, Bool.or_false, Bool.false_or, Bool.or_true, Bool.true_or, ↓reduceIte, Bool.false_eq_true, not_true_eq_false, not_false_eq_true, and_self]; done) | (simp [zrc, hc3, c_1, c_2, c_3]; done) | (simp_all [zrc, hc3]; done)) (by first | (simp only [zrcd, zrcr, hc3, c_1, c_2, c_3, decide_true, decide_false, Bool.not_true, Bool.not_false, Bool.and_true, Bool.true_and, Bool.and_false, Bool.false_and, Bool.or_false, Bool.false_or, Bool.or_true, Bool.true_or, ↓reduceIte, Bool.false_eq_true, not_true_eq_false, not_false_eq_true, and_self]; done) | (simp [zrcd, zrcr, hc3, c_1, c_2, c_3]; done) | (simp_all [zrcd, zrcr, hc3]; done))
    · refine lv_aload_n hx hb dX4_refusalOfCourse_19 rfl (lv_at hl 0 rfl) ?_
      refine lv_bipush (v := 14) hx hb dX4_refusalOfCourse_20 (by decide) ?_
      refine lv_iload_n hx hb dX4_refusalOfCourse_22 rfl (lv_at hl 1 rfl) ?_
      refine zcV (As := [.int 14, .int (nI cq)]) (rest := []) [0] 0 hg.1 ⟨hx, hb, hml, hown, hts⟩ (c_X4_refuse hg l D cy m0 h0 k0 yn pt ac ten rw fin add use dro rdt rrs a0 14 (nI cq)) (cwV 2 hts gX4_refusalOfCourse_X4_refuse rfl rfl rfl (by decide +kernel) ⟨Nat.le_of_ble_eq_true rfl, Nat.le_of_ble_eq_true rfl⟩) hG hK hP hD hS hA rfl rfl (Eq.trans (b := [m0]) rfl rfl) rfl rfl rfl hl.1 rfl (Nat.le_of_ble_eq_true rfl) dX4_refusalOfCourse_23 ⟨Nat.zero_le _, Nat.zero_le _⟩ (fun H locs hP hD hS => ?_)
      have hP : va_P D vwCl [(m0, .inr (8, [.ref h0, .ref k0, .ref yn, .ref pt, .int (nI ac), .int ten, .int (nI rw), .int fin, .int add, .int use, .int dro, .int (nI cq), .int 14, .ref a0]))] H := hP
      have hD : va_D A [(m0, .inr (8, [.ref h0, .ref k0, .ref yn, .ref pt, .int (nI ac), .int ten, .int (nI rw), .int fin, .int add, .int use, .int dro, .int (nI cq), .int 14, .ref a0]))] := hD
      exact ziret hend hx hb hr hlk hK hP hD hS dX4_refusalOfCourse_26 (by first | (simp only [zrc, hc3, c_1, c_2, decide_true, decide_false, Bool.not_true, Bool.not_false, Bool.and_true, Bool.true_and, Bool.and_false, Bool.false_and, Bool.or_false, Bool.false_or, Bool.or_true, Bool.true_or, ↓reduceIte, Bool.false_eq_true, not_true_eq_false, not_false_eq_true, and_self]; done) | (simp [zrc, hc3, c_1, c_2]; done) | (simp_all [zrc, hc3]; done)) (by first | (simp only [zrcd, zrcr, hc3, c_1, c_2, decide_true, decide_false, Bool.not_true, Bool.not_false, Bool.and_true, Bool.true_and, Bool.and_false, Bool.false_and, Bool.or_false, Bool.false_or, Bool.or_true, Bool.true_or, ↓reduceIte, Bool.false_eq_true, not_true_eq_false, not_false_eq_true, and_self]; done) | (simp [zrcd, zrcr, hc3, c_1, c_2]; done) | (simp_all [zrcd, zrcr, hc3]; done))
  · have hc3 : 30 ≤ cq := Nat.le_of_not_lt (fun z => c_1 ((nI_ltI (b := 30) (by omega) (by omega)).mpr z))
    refine lv_aload_n hx hb dX4_refusalOfCourse_6 rfl (lv_at hl 0 rfl) ?_
    refine lv_bipush (v := 13) hx hb dX4_refusalOfCourse_7 (by decide) ?_
    refine lv_bipush (v := 30) hx hb dX4_refusalOfCourse_9 (by decide) ?_
    refine zcV (As := [.int 13, .int 30]) (rest := []) [0] 0 hg.1 ⟨hx, hb, hml, hown, hts⟩ (c_X4_refuse hg l D cy m0 h0 k0 yn pt ac ten rw fin add use dro rdt rrs a0 13 30) (cwV 2 hts gX4_refusalOfCourse_X4_refuse rfl rfl rfl (by decide +kernel) ⟨Nat.le_of_ble_eq_true rfl, Nat.le_of_ble_eq_true rfl⟩) hG hK hP hD hS hA rfl rfl (Eq.trans (b := [m0]) rfl rfl) rfl rfl rfl hl.1 rfl (Nat.le_of_ble_eq_true rfl) dX4_refusalOfCourse_11 ⟨Nat.zero_le _, Nat.zero_le _⟩ (fun H locs hP hD hS => ?_)
    have hP : va_P D vwCl [(m0, .inr (8, [.ref h0, .ref k0, .ref yn, .ref pt, .int (nI ac), .int ten, .int (nI rw), .int fin, .int add, .int use, .int dro, .int 30, .int 13, .ref a0]))] H := hP
    have hD : va_D A [(m0, .inr (8, [.ref h0, .ref k0, .ref yn, .ref pt, .int (nI ac), .int ten, .int (nI rw), .int fin, .int add, .int use, .int dro, .int 30, .int 13, .ref a0]))] := hD
    exact ziret hend hx hb hr hlk hK hP hD hS dX4_refusalOfCourse_14 (by first | (simp only [zrc, hc3, c_1, decide_true, decide_false, Bool.not_true, Bool.not_false, Bool.and_true, Bool.true_and, Bool.and_false, Bool.false_and, Bool.or_false, Bool.false_or, Bool.or_true, Bool.true_or, ↓reduceIte, Bool.false_eq_true, not_true_eq_false, not_false_eq_true, and_self]; done) | (simp [zrc, hc3, c_1]; done) | (simp_all [zrc, hc3]; done)) (by first | (simp only [zrcd, zrcr, hc3, c_1, decide_true, decide_false, Bool.not_true, Bool.not_false, Bool.and_true, Bool.true_and, Bool.and_false, Bool.false_and, Bool.or_false, Bool.false_or, Bool.or_true, Bool.true_or, ↓reduceIte, Bool.false_eq_true, not_true_eq_false, not_false_eq_true, and_self]; done) | (simp [zrcd, zrcr, hc3, c_1]; done) | (simp_all [zrcd, zrcr, hc3]; done))

