/-! the law, from its entry to its loop, and to its end -/
set_option maxHeartbeats 40000000 in
set_option maxRecDepth 100000 in
theorem whole_start {p : Program} {e : Env} {s : State} {m : MethodId} {below : List Frame} {meth : Method} {c : Code} (l : Launch) (hflags : l.flags = flags0) {b L : Nat} {xs : Nat → Int32} (hL : L ≤ 1536) (C0 : lw_At p s m meth c b L xs) : W p l e room_1 s m #[Value.ref b] below meth c s.heap [] 0 0 (lw_Z below #[Value.ref b] s) (entryFrame m ([Value.ref b] : List Value).toArray 9) := by
  obtain ⟨hx, hb, hr, hml, hown, hts0, hX, hbl, hlocks, hgv⟩ := id C0
  have hb : c.code = cL_law := hb
  have hown : s.vm.findClass RL = some m.cls := hown
  have hfl : l.stackTraces = false := by
    unfold Launch.stackTraces
    rw [hflags]
    decide
  have hts : ∀ w ∈ wsL_law, w.before #[Value.ref b] s = true := fun w hw => zx3_at hts0 w (zt_law w hw)
  have hA : ∀ q : Nat, s.heap.size ≤ q → (fun q : Nat => s.heap.size ≤ q) q := fun _ h => h
  obtain ⟨ak, av, hG⟩ := zGG_at hts0 hgv
  obtain ⟨D, cy, hK⟩ := zK_at hts0
  have hS : va_S (fun q : Nat => s.heap.size ≤ q) s.heap s.heap [] := va_S.rf
  have hP : va_P D vwCl [] s.heap := fun k q h => by simp at h
  have hD : va_D (fun q : Nat => s.heap.size ≤ q) [] := ⟨fun i j p q h => by simp at h, fun k q h => by simp at h⟩
  have hl := lv_entry ([.ref b]) (n := 9) (Nat.le_of_ble_eq_true rfl)
  rw [lg_entry_eq]
  generalize (lg_sl ([.ref b]) ++ List.replicate (9 - (lg_sl ([.ref b])).length) Slot.unset).toArray = ls at hl ⊢
  have hl : lv_has ls 9 [(0, .ref b)] := hl
  refine va_new (ci := 9) (fs := [.null, .null, .null, .null, .null, .null, .int (zI false), .int 0, .int 0, .int 0, .int 0]) (C := RX5) (T := TX5) (N := 11) hx hb hts zin5_w tyX5 tyX5_ok hown (hts0 (.classLink RL 8 RX5) (by decide +kernel)) (hts0 (.instantiable RX5 11) (by decide +kernel)) (hts0 (.initialized RX5) (by decide +kernel)) hK hP hD hS hA rfl (fun j hj => by rcases (show j = 0 ∨ j = 1 ∨ j = 2 ∨ j = 3 ∨ j = 4 ∨ j = 5 ∨ j = 6 ∨ j = 7 ∨ j = 8 ∨ j = 9 ∨ j = 10 by omega) with rfl | rfl | rfl | rfl | rfl | rfl | rfl | rfl | rfl | rfl | rfl <;> rfl) (Nat.le_of_ble_eq_true rfl) (Nat.le_of_ble_eq_true rfl) dL_law_0 (fun q0 H hP hD hS => ?_)
  have hP : va_P D vwCl [(q0, .inr (9, [.null, .null, .null, .null, .null, .null, .int (zI false), .int 0, .int 0, .int 0, .int 0]))] H := hP
  have hD : va_D (fun q : Nat => s.heap.size ≤ q) [(q0, .inr (9, [.null, .null, .null, .null, .null, .null, .int (zI false), .int 0, .int 0, .int 0, .int 0]))] := hD
  refine lv_dup hx hb dL_law_3 rfl ?_
  refine zcnI (As := []) (rest := [.ref q0]) [0] (zGG_ok ak av) ⟨hx, hb, hml, hown, hts⟩ (c_X5_init (zGG_I ak av) l D cy q0) (cwI 0 hts gL_law_X5_init rfl rfl rfl (hts0 (.initialized RX5) (by decide +kernel)) (hts0 (.methodLink RL 151 yX5_init) (by decide +kernel)) (hts0 (.instanceMethod yX5_init) (by decide +kernel)) rfl (by decide +kernel) ⟨(Nat.le_of_ble_eq_true rfl), (Nat.le_of_ble_eq_true rfl)⟩) hG hK hP hD hS hA rfl rfl (fun _ _ => rfl) rfl hl.1 rfl (Nat.le_of_ble_eq_true rfl) dL_law_4 ⟨(Nat.le_of_ble_eq_true rfl), (Nat.le_of_ble_eq_true rfl)⟩ (fun p5 H locs hn5 hP hD hS => ?_)
  have hP : va_P D vwCl ([(q0, zO5 p5)] ++ zI5 cy p5) H := hP
  have hD : va_D (fun q : Nat => s.heap.size ≤ q) ([(q0, zO5 p5)] ++ zI5 cy p5) := hD
  refine lv_astore_n (lv' := [(1, .ref q0), (0, .ref b)]) hx hb dL_law_7 rfl hl (by decide) rfl (fun ls hl => ?_)
  refine va_new (ci := 10) (fs := [.int 0, .int 0, .int 0, .int 0, .int 0, .int 0, .int (zI false), .int (zI false), .null, .null, .null, .null, .null, .null, .null, .int 0, .int 0, .int 0, .int 0, .int (zI false), .int (zI false)]) (C := RX6) (T := TX6) (N := 21) hx hb hts zin6_w tyX6 tyX6_ok hown (hts0 (.classLink RL 152 RX6) (by decide +kernel)) (hts0 (.instantiable RX6 21) (by decide +kernel)) (hts0 (.initialized RX6) (by decide +kernel)) hK hP hD hS hA rfl (fun j hj => by rcases (show j = 0 ∨ j = 1 ∨ j = 2 ∨ j = 3 ∨ j = 4 ∨ j = 5 ∨ j = 6 ∨ j = 7 ∨ j = 8 ∨ j = 9 ∨ j = 10 ∨ j = 11 ∨ j = 12 ∨ j = 13 ∨ j = 14 ∨ j = 15 ∨ j = 16 ∨ j = 17 ∨ j = 18 ∨ j = 19 ∨ j = 20 by omega) with rfl | rfl | rfl | rfl | rfl | rfl | rfl | rfl | rfl | rfl | rfl | rfl | rfl | rfl | rfl | rfl | rfl | rfl | rfl | rfl | rfl <;> rfl) (Nat.le_of_ble_eq_true rfl) (Nat.le_of_ble_eq_true rfl) dL_law_8 (fun q9 H hP hD hS => ?_)
  refine lv_dup hx hb dL_law_11 rfl ?_
  refine zcnI (As := []) (rest := [.ref q9]) [135] (zGG_ok ak av) ⟨hx, hb, hml, hown, hts⟩ (c_X6_init (zGG_W ak av).1.1.1.1 l D cy q9) (cwI 0 hts gL_law_X6_init rfl rfl rfl (hts0 (.initialized RX6) (by decide +kernel)) (hts0 (.methodLink RL 154 yX6_init) (by decide +kernel)) (hts0 (.instanceMethod yX6_init) (by decide +kernel)) rfl (by decide +kernel) ⟨(Nat.le_of_ble_eq_true rfl), (Nat.le_of_ble_eq_true rfl)⟩) hG hK hP hD hS hA rfl rfl (fun _ _ => rfl) rfl hl.1 rfl (Nat.le_of_ble_eq_true rfl) dL_law_12 ⟨(Nat.le_of_ble_eq_true rfl), (Nat.le_of_ble_eq_true rfl)⟩ (fun p6 H locs hn6 hP hD hS => ?_)
  have hP : va_P D vwCl ((([(q0, zO5 p5)] ++ zI5 cy p5) ++ [(q9, zO6 p6)]) ++ zI6 cy p6) H := hP
  have hD : va_D (fun q : Nat => s.heap.size ≤ q) ((([(q0, zO5 p5)] ++ zI5 cy p5) ++ [(q9, zO6 p6)]) ++ zI6 cy p6) := hD
  refine lv_astore_n (lv' := [(2, .ref q9), (1, .ref q0), (0, .ref b)]) hx hb dL_law_15 rfl hl (by decide) rfl (fun ls hl => ?_)
  refine lv_iconst (v := 1) hx hb dL_law_16 (by decide) ?_
  refine znewa (atype := .long) (ty := .long) (a0 := (1, .inr (.inl (fun _ => 0)))) (t0 := 3) hx hb (hts0 _ (by decide +kernel)) rfl rfl (fun _ z => by cases z) hK hP hD hS hA (fun _ => rfl) (by decide) (by decide) (Nat.le_of_ble_eq_true rfl) (Nat.le_of_ble_eq_true rfl) (Nat.le_of_ble_eq_true rfl) dL_law_17 (fun q3 H hP hD hS => ?_)
  refine lv_astore_n (lv' := [(3, .ref q3), (2, .ref q9), (1, .ref q0), (0, .ref b)]) hx hb dL_law_19 rfl hl (by decide) rfl (fun ls hl => ?_)
  refine lv_iconst (v := 1) hx hb dL_law_20 (by decide) ?_
  refine znewa (atype := .double) (ty := .double) (a0 := (1, .inr (.inr (.inr (.inl (fun _ => 0)))))) (t0 := 4) hx hb (hts0 _ (by decide +kernel)) rfl rfl (fun _ z => by cases z) hK hP hD hS hA (fun _ => rfl) (by decide) (by decide) (Nat.le_of_ble_eq_true rfl) (Nat.le_of_ble_eq_true rfl) (Nat.le_of_ble_eq_true rfl) dL_law_21 (fun q4 H hP hD hS => ?_)
  have hP : va_P D vwCl (zW0 cy q0 q9 q3 q4 p5 p6) H := hP
  have hD : va_D (fun q : Nat => s.heap.size ≤ q) (zW0 cy q0 q9 q3 q4 p5 p6) := hD
  refine lv_astore (lv' := [(4, .ref q4), (3, .ref q3), (2, .ref q9), (1, .ref q0), (0, .ref b)]) hx hb dL_law_23 hl (by decide) rfl (fun ls hl => ?_)
  refine lv_iconst (v := 0) hx hb dL_law_25 (by decide) ?_
  refine lv_istore (lv' := [(5, .int 0), (4, .ref q4), (3, .ref q3), (2, .ref q9), (1, .ref q0), (0, .ref b)]) hx hb dL_law_26 hl (by decide) rfl (fun ls hl => ?_)
  have hat : va_at D vwCl (p5.getD 37 0, .inl (cy 2, 8, .inr (.inr (.inr (.inr (zrq (zq2 p5))))))) H := by
    have h0 := hP 38 _ (zW0_h cy q0 q9 q3 q4 p5 p6)
    refine Eq.trans h0 (congrArg some ?_)
    exact arrV_cg (fun j hj => zrq_h j hj)
  have hP1 := hP.set hD (zW0_h cy q0 q9 q3 q4 p5 p6) hat (fun _ _ => rfl)
  have hD1 := hD.set (e := .inl (cy 2, 8, .inr (.inr (.inr (.inr (zrq (zq2 p5))))))) (zW0_h cy q0 q9 q3 q4 p5 p6)
  have hP2 := (zW0_X cy q0 q9 q3 q4 p5 p6).1 D vwCl H hP1
  have hD2 := (zW0_X cy q0 q9 q3 q4 p5 p6).2 _ hD1
  exact law_loop (G := zGG ak av) (zGG_W ak av) (I := zIn cy (zad q0 q3 q4 p5) (zq1 3 p5) (zq1 14 p5) (zq1 25 p5) (zq2 p5) (zbd q9 p6)) (x0 := q0) (x9 := q9) (ow := q3) (od := q4) (b := b) (L := L) (xs := xs) hx hb hml hown hts hG hK hX hbl hL (fun w m h => zIn.hd h)
    (fun w mw i hi hI => zArms_of (zGG_W ak av) hfl (zGG_L ak av) hI)
    (fun H locs ls hS => va_forget hS.2.2 (W.base (lw_ret (d0 := s.drawn) (Drawn.sameBut.refl s.drawn lw_cs) hx hb hr hlocks dL_law_2841)))
    512 0 _ _ H locs _ _ ls (Nat.zero_le L) (by omega) zIn_0 hP2 hD2 hS (Nat.le_of_ble_eq_true rfl) (Nat.le_of_ble_eq_true rfl) (lv_sub hl [5, 4, 3, 2, 1, 0] rfl)
