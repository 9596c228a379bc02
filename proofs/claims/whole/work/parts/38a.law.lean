set_option maxHeartbeats 4000000 in
set_option maxRecDepth 100000 in
/-- castOn -/
theorem law_0 {G : zG} (hg : zGW G) {l : Launch} {D : va_G} {cy : Nat → ClassId} {I : va_W → va_W → Prop} {x0 x9 ow od b L : Nat} {xs : Nat → Int32} {p : Program} {e : Env} {s : State} {m : MethodId} {args : Array Value} {below : List Frame} {meth : Method} {c : Code} {H : Heap} {locs : List Loc} {cells slots : Nat} {Q : State → Prop} (hx : p.tables.exec = Jvm.exec) (hb : c.code = cL_law) (hml : c.maxLocals = 9) (hown : s.vm.findClass RL = some m.cls) (hts : ∀ w ∈ wsL_law, w.before args s = true) (hG : G (fun q => s.heap.size ≤ q) s) (hK : va_K D vwCl (zT cy) s) (hX : va_X b L xs s s.heap) (hbl : b < s.heap.size) {w mw : va_W} {i : Nat} (hi : i + 2 < L) (hL : L ≤ 1536) (hI : I w mw) (hhd : ∀ w m, I w m → zHd x0 x9 w m) (hP : va_P D vwCl (w ++ mw) H) (hD : va_D (fun q => s.heap.size ≤ q) (w ++ mw)) (hS : va_S (fun q => s.heap.size ≤ q) s.heap H locs) (ls : Array Slot) (hl : lv_has ls 9 [(0, .ref b), (1, .ref x0), (2, .ref x9), (3, .ref ow), (4, .ref od), (5, .int (nI i))]) (hrc : cells + 2 ≤ 603072) (hrs : slots + 96 ≤ 7202922) (harm : zArmS G D cy l I x9 yL_castOn wsL_castOn [.ref x0, .int (xs (i + 1)), .int (xs (i + 2)), .ref ow] yX6_castOn wsX6_castOn [.ref x9, .int (xs (i + 1)), .int (xs (i + 2))] (fun w' b => zOut ow cy w' b.toInt64) w mw) (kn : ∀ (w' m' : va_W) (H1 : Heap) (locs1 : List Loc) (ls1 : Array Slot), I w' m' → va_P D vwCl (w' ++ m') H1 → va_D (fun q => s.heap.size ≤ q) (w' ++ m') → va_S (fun q => s.heap.size ≤ q) s.heap H1 locs1 → lv_has ls1 9 [(0, .ref b), (1, .ref x0), (2, .ref x9), (3, .ref ow), (4, .ref od), (5, .int (nI i))] → W p l e room_1 s m args below meth c H1 locs1 (cells + 2) (slots + 96) Q (F0 m 2834 ls1 [])) : W p l e room_1 s m args below meth c H locs cells slots Q (F0 m 304 ls []) := by
  refine lv_aload_n hx hb dL_law_304 rfl (lv_at hl 1 rfl) ?_
  refine lv_aload_n hx hb dL_law_305 rfl (lv_at hl 0 rfl) ?_
  refine lv_iload hx hb dL_law_306 (lv_at hl 5 rfl) ?_
  refine lv_iconst (v := 1) hx hb dL_law_308 (by decide) ?_
  refine lv_iadd hx hb dL_law_309 ?_
  refine z_top (y := nI (i + 1)) (nI_add i 1) ?_
  refine va_sld hx hb hX hbl (Nat.not_le.mpr hbl) hS (vp_in_nI (n := i + 1) (by omega) (by omega)) dL_law_310 ?_
  refine z_top (y := xs (i + 1)) (by rw [nI_clamp (by omega)]) ?_
  refine lv_aload_n hx hb dL_law_311 rfl (lv_at hl 0 rfl) ?_
  refine lv_iload hx hb dL_law_312 (lv_at hl 5 rfl) ?_
  refine lv_iconst (v := 2) hx hb dL_law_314 (by decide) ?_
  refine lv_iadd hx hb dL_law_315 ?_
  refine z_top (y := nI (i + 2)) (nI_add i 2) ?_
  refine va_sld hx hb hX hbl (Nat.not_le.mpr hbl) hS (vp_in_nI (n := i + 2) (by omega) (by omega)) dL_law_316 ?_
  refine z_top (y := xs (i + 2)) (by rw [nI_clamp (by omega)]) ?_
  refine lv_aload_n hx hb dL_law_317 rfl (lv_at hl 3 rfl) ?_
  obtain ⟨Φ, Ψ, hM1, hM2, hpure⟩ := harm
  refine zlS (As := [.ref x0, .int (xs (i + 1)), .int (xs (i + 2)), .ref ow]) (rest := []) (hh := [(0, 10, 13, 13), (0, 10, 17, 15), (0, 10, 21, 17)]) hg.1.1.1.1.1 ⟨hx, hb, hml, hown, hts⟩ hM1 (vx_cwSW 4 hts gL_law_L_castOn rfl rfl rfl (by decide +kernel) ⟨Nat.le_of_ble_eq_true rfl, Nat.le_of_ble_eq_true rfl⟩) hG hK hP hD hS (fun _ h => h) rfl hl.1 rfl (Nat.le_of_ble_eq_true rfl) dL_law_318 ⟨hrc, hrs⟩ (fun w1 o1 H locs h1 hP hD hS => ?_)
  obtain ⟨k, rfl, h1⟩ := h1
  have hP := va_P_swap hP
  have hD := va_D_swap hD
  refine lv_istore (lv' := [(6, .int k), (0, .ref b), (1, .ref x0), (2, .ref x9), (3, .ref ow), (4, .ref od), (5, .int (nI i))]) hx hb dL_law_321 hl (by decide) rfl (fun ls hl => ?_)
  refine lv_aload_n hx hb dL_law_323 rfl (lv_at hl 3 rfl) ?_
  refine lv_aload_n hx hb dL_law_324 rfl (lv_at hl 1 rfl) ?_
  refine lv_iload hx hb dL_law_325 (lv_at hl 6 rfl) ?_
  refine lv_iconst (v := 1) hx hb dL_law_327 (by decide) ?_
  refine lv_iadd hx hb dL_law_328 ?_
  refine z_top (y := nI (i + 1)) (nI_add i 1) ?_
  refine va_sld hx hb hX hbl (Nat.not_le.mpr hbl) hS (vp_in_nI (n := i + 1) (by omega) (by omega)) dL_law_329 ?_
  refine z_top (y := xs (i + 1)) (by rw [nI_clamp (by omega)]) ?_
  refine lv_aload_n hx hb dL_law_330 rfl (lv_at hl 1 rfl) ?_
  refine lv_iload hx hb dL_law_331 (lv_at hl 6 rfl) ?_
  refine lv_iconst (v := 2) hx hb dL_law_333 (by decide) ?_
  refine lv_iadd hx hb dL_law_334 ?_
  refine z_top (y := nI (i + 2)) (nI_add i 2) ?_
  refine va_sld hx hb hX hbl (Nat.not_le.mpr hbl) hS (vp_in_nI (n := i + 2) (by omega) (by omega)) dL_law_335 ?_
  refine z_top (y := xs (i + 2)) (by rw [nI_clamp (by omega)]) ?_
  obtain ⟨⟨fs0, e0⟩, fs9, e9⟩ := hhd _ _ hI
  refine zlV (ci := 10) (As := [.int (xs (i + 1)), .int (xs (i + 2))]) (rest := []) 0 hg.1.1.1.1.1 ⟨hx, hb, hml, hown, hts⟩ hM2 (cwV 2 hts gL_law_X6_castOn rfl rfl rfl (by decide +kernel) ⟨Nat.le_of_ble_eq_true rfl, Nat.le_of_ble_eq_true rfl⟩) hG hK hP hD hS (fun _ h => h) rfl e9 rfl hl.1 rfl (Nat.le_of_ble_eq_true rfl) dL_law_336 ⟨hrc, hrs⟩ (fun m1 o2 H locs h2 hP hD hS => ?_)
  obtain ⟨bb, rfl, h2⟩ := h2
  obtain ⟨hth, hko, hI1⟩ := hpure w1 k m1 bb h1 h2
  refine lv_istore (lv' := [(7, .int bb), (6, .int k), (0, .ref b), (1, .ref x0), (2, .ref x9), (3, .ref ow), (4, .ref od), (5, .int (nI i))]) hx hb dL_law_339 hl (by decide) rfl (fun ls hl => ?_)
  refine lv_aload_n hx hb dL_law_341 rfl (lv_at hl 4 rfl) ?_
  obtain ⟨⟨fs1, e1⟩, fs2, e2⟩ := hhd _ _ hI1
  refine zlV (ci := 10) (As := []) (rest := []) 0 hg.1.1.1.1.1 ⟨hx, hb, hml, hown, hts⟩ hth (cwV 0 hts gL_law_X6_thrown rfl rfl rfl (by decide +kernel) ⟨Nat.le_of_ble_eq_true rfl, Nat.le_of_ble_eq_true rfl⟩) hG hK hP hD hS (fun _ h => h) rfl e2 rfl hl.1 rfl (Nat.le_of_ble_eq_true rfl) dL_law_342 ⟨hrc, hrs⟩ (fun m2 o3 H locs h3 hP hD hS => ?_)
  obtain ⟨em, rfl⟩ := h3
  rw [em] at hP hD
  have hP := va_P_swap hP
  have hD := va_D_swap hD
  refine lv_iload hx hb dL_law_345 (lv_at hl 1 rfl) ?_
  refine lv_icmp_eq (tgt := 352) hx hb dL_law_347 (by decide) (fun c9 => ?_) (fun c9 => ?_)
  · skip
    refine lv_iload hx hb dL_law_352 (lv_at hl 1 rfl) ?_
    refine lv_if_ne (tgt := 369) hx hb dL_law_354 (by decide) (fun c9 => ?_) (fun c9 => ?_)
    · skip
      refine lv_goto (tgt := 2834) hx hb dL_law_369 (by decide) ?_
      exact kn w1 m1 H locs ls hI1 hP hD hS (lv_sub hl [2, 3, 4, 5, 6, 7] rfl)
    · skip
      obtain ⟨f, h47, hf⟩ := hko c9
      refine lv_aload_n hx hb dL_law_357 rfl (lv_at hl 5 rfl) ?_
      refine lv_iconst (v := 0) hx hb dL_law_358 (by decide) ?_
      refine z_top (y := nI 0) rfl ?_
      refine va_lald hx hb hK hP 47 3 (z_inl h47) rfl (vp_in_nI (n := 0) (by decide) (by decide)) dL_law_359 ?_
      rw [show f (nI 0).toNatClampNeg = _ from hf]
      refine lv_iload hx hb dL_law_360 (lv_at hl 0 rfl) ?_
      refine lv_i2l hx hb dL_law_362 rfl ?_
      refine W.lcmp hx hb dL_law_363 ?_
      refine z_top (y := 0) (lg_cmp_rf rfl) ?_
      refine lv_if_eq (tgt := 369) hx hb dL_law_364 (by decide) (fun c9 => ?_) (fun c9 => ?_)
      · skip
        refine lv_goto (tgt := 2834) hx hb dL_law_369 (by decide) ?_
        exact kn w1 m1 H locs ls hI1 hP hD hS (lv_sub hl [2, 3, 4, 5, 6, 7] rfl)
      · exact absurd rfl c9
  · exact absurd rfl c9

set_option maxHeartbeats 4000000 in
set_option maxRecDepth 100000 in
/-- castOff -/
theorem law_1 {G : zG} (hg : zGW G) {l : Launch} {D : va_G} {cy : Nat → ClassId} {I : va_W → va_W → Prop} {x0 x9 ow od b L : Nat} {xs : Nat → Int32} {p : Program} {e : Env} {s : State} {m : MethodId} {args : Array Value} {below : List Frame} {meth : Method} {c : Code} {H : Heap} {locs : List Loc} {cells slots : Nat} {Q : State → Prop} (hx : p.tables.exec = Jvm.exec) (hb : c.code = cL_law) (hml : c.maxLocals = 9) (hown : s.vm.findClass RL = some m.cls) (hts : ∀ w ∈ wsL_law, w.before args s = true) (hG : G (fun q => s.heap.size ≤ q) s) (hK : va_K D vwCl (zT cy) s) (hX : va_X b L xs s s.heap) (hbl : b < s.heap.size) {w mw : va_W} {i : Nat} (hi : i + 2 < L) (hL : L ≤ 1536) (hI : I w mw) (hhd : ∀ w m, I w m → zHd x0 x9 w m) (hP : va_P D vwCl (w ++ mw) H) (hD : va_D (fun q => s.heap.size ≤ q) (w ++ mw)) (hS : va_S (fun q => s.heap.size ≤ q) s.heap H locs) (ls : Array Slot) (hl : lv_has ls 9 [(0, .ref b), (1, .ref x0), (2, .ref x9), (3, .ref ow), (4, .ref od), (5, .int (nI i))]) (hrc : cells + 2 ≤ 603072) (hrs : slots + 96 ≤ 7202922) (harm : zArmS G D cy l I x9 yL_castOff wsL_castOff [.ref x0, .ref ow] yX6_castOff wsX6_castOff [.ref x9] (fun w' b => zOut ow cy w' b.toInt64) w mw) (kn : ∀ (w' m' : va_W) (H1 : Heap) (locs1 : List Loc) (ls1 : Array Slot), I w' m' → va_P D vwCl (w' ++ m') H1 → va_D (fun q => s.heap.size ≤ q) (w' ++ m') → va_S (fun q => s.heap.size ≤ q) s.heap H1 locs1 → lv_has ls1 9 [(0, .ref b), (1, .ref x0), (2, .ref x9), (3, .ref ow), (4, .ref od), (5, .int (nI i))] → W p l e room_1 s m args below meth c H1 locs1 (cells + 2) (slots + 96) Q (F0 m 2834 ls1 [])) : W p l e room_1 s m args below meth c H locs cells slots Q (F0 m 372 ls []) := by
  refine lv_aload_n hx hb dL_law_372 rfl (lv_at hl 1 rfl) ?_
  refine lv_aload_n hx hb dL_law_373 rfl (lv_at hl 3 rfl) ?_
  obtain ⟨Φ, Ψ, hM1, hM2, hpure⟩ := harm
  refine zlS (As := [.ref x0, .ref ow]) (rest := []) (hh := [(0, 8, 11, 17)]) hg.1.1.1.1.1 ⟨hx, hb, hml, hown, hts⟩ hM1 (vx_cwSW 2 hts gL_law_L_castOff rfl rfl rfl (by decide +kernel) ⟨Nat.le_of_ble_eq_true rfl, Nat.le_of_ble_eq_true rfl⟩) hG hK hP hD hS (fun _ h => h) rfl hl.1 rfl (Nat.le_of_ble_eq_true rfl) dL_law_374 ⟨hrc, hrs⟩ (fun w1 o1 H locs h1 hP hD hS => ?_)
  obtain ⟨k, rfl, h1⟩ := h1
  have hP := va_P_swap hP
  have hD := va_D_swap hD
  refine lv_istore (lv' := [(6, .int k), (0, .ref b), (1, .ref x0), (2, .ref x9), (3, .ref ow), (4, .ref od), (5, .int (nI i))]) hx hb dL_law_377 hl (by decide) rfl (fun ls hl => ?_)
  refine lv_aload_n hx hb dL_law_379 rfl (lv_at hl 3 rfl) ?_
  obtain ⟨⟨fs0, e0⟩, fs9, e9⟩ := hhd _ _ hI
  refine zlV (ci := 10) (As := []) (rest := []) 0 hg.1.1.1.1.1 ⟨hx, hb, hml, hown, hts⟩ hM2 (cwV 0 hts gL_law_X6_castOff rfl rfl rfl (by decide +kernel) ⟨Nat.le_of_ble_eq_true rfl, Nat.le_of_ble_eq_true rfl⟩) hG hK hP hD hS (fun _ h => h) rfl e9 rfl hl.1 rfl (Nat.le_of_ble_eq_true rfl) dL_law_380 ⟨hrc, hrs⟩ (fun m1 o2 H locs h2 hP hD hS => ?_)
  obtain ⟨bb, rfl, h2⟩ := h2
  obtain ⟨hth, hko, hI1⟩ := hpure w1 k m1 bb h1 h2
  refine lv_istore (lv' := [(7, .int bb), (6, .int k), (0, .ref b), (1, .ref x0), (2, .ref x9), (3, .ref ow), (4, .ref od), (5, .int (nI i))]) hx hb dL_law_383 hl (by decide) rfl (fun ls hl => ?_)
  refine lv_aload_n hx hb dL_law_385 rfl (lv_at hl 4 rfl) ?_
  obtain ⟨⟨fs1, e1⟩, fs2, e2⟩ := hhd _ _ hI1
  refine zlV (ci := 10) (As := []) (rest := []) 0 hg.1.1.1.1.1 ⟨hx, hb, hml, hown, hts⟩ hth (cwV 0 hts gL_law_X6_thrown rfl rfl rfl (by decide +kernel) ⟨Nat.le_of_ble_eq_true rfl, Nat.le_of_ble_eq_true rfl⟩) hG hK hP hD hS (fun _ h => h) rfl e2 rfl hl.1 rfl (Nat.le_of_ble_eq_true rfl) dL_law_386 ⟨hrc, hrs⟩ (fun m2 o3 H locs h3 hP hD hS => ?_)
  obtain ⟨em, rfl⟩ := h3
  rw [em] at hP hD
  have hP := va_P_swap hP
  have hD := va_D_swap hD
  refine lv_iload hx hb dL_law_389 (lv_at hl 1 rfl) ?_
  refine lv_icmp_eq (tgt := 396) hx hb dL_law_391 (by decide) (fun c9 => ?_) (fun c9 => ?_)
  · skip
    refine lv_iload hx hb dL_law_396 (lv_at hl 1 rfl) ?_
    refine lv_if_ne (tgt := 413) hx hb dL_law_398 (by decide) (fun c9 => ?_) (fun c9 => ?_)
    · skip
      refine lv_goto (tgt := 2834) hx hb dL_law_413 (by decide) ?_
      exact kn w1 m1 H locs ls hI1 hP hD hS (lv_sub hl [2, 3, 4, 5, 6, 7] rfl)
    · skip
      obtain ⟨f, h47, hf⟩ := hko c9
      refine lv_aload_n hx hb dL_law_401 rfl (lv_at hl 5 rfl) ?_
      refine lv_iconst (v := 0) hx hb dL_law_402 (by decide) ?_
      refine z_top (y := nI 0) rfl ?_
      refine va_lald hx hb hK hP 47 3 (z_inl h47) rfl (vp_in_nI (n := 0) (by decide) (by decide)) dL_law_403 ?_
      rw [show f (nI 0).toNatClampNeg = _ from hf]
      refine lv_iload hx hb dL_law_404 (lv_at hl 0 rfl) ?_
      refine lv_i2l hx hb dL_law_406 rfl ?_
      refine W.lcmp hx hb dL_law_407 ?_
      refine z_top (y := 0) (lg_cmp_rf rfl) ?_
      refine lv_if_eq (tgt := 413) hx hb dL_law_408 (by decide) (fun c9 => ?_) (fun c9 => ?_)
      · skip
        refine lv_goto (tgt := 2834) hx hb dL_law_413 (by decide) ?_
        exact kn w1 m1 H locs ls hI1 hP hD hS (lv_sub hl [2, 3, 4, 5, 6, 7] rfl)
      · exact absurd rfl c9
  · exact absurd rfl c9

set_option maxHeartbeats 4000000 in
set_option maxRecDepth 100000 in
/-- hold -/
theorem law_2 {G : zG} (hg : zGW G) {l : Launch} {D : va_G} {cy : Nat → ClassId} {I : va_W → va_W → Prop} {x0 x9 ow od b L : Nat} {xs : Nat → Int32} {p : Program} {e : Env} {s : State} {m : MethodId} {args : Array Value} {below : List Frame} {meth : Method} {c : Code} {H : Heap} {locs : List Loc} {cells slots : Nat} {Q : State → Prop} (hx : p.tables.exec = Jvm.exec) (hb : c.code = cL_law) (hml : c.maxLocals = 9) (hown : s.vm.findClass RL = some m.cls) (hts : ∀ w ∈ wsL_law, w.before args s = true) (hG : G (fun q => s.heap.size ≤ q) s) (hK : va_K D vwCl (zT cy) s) (hX : va_X b L xs s s.heap) (hbl : b < s.heap.size) {w mw : va_W} {i : Nat} (hi : i + 2 < L) (hL : L ≤ 1536) (hI : I w mw) (hhd : ∀ w m, I w m → zHd x0 x9 w m) (hP : va_P D vwCl (w ++ mw) H) (hD : va_D (fun q => s.heap.size ≤ q) (w ++ mw)) (hS : va_S (fun q => s.heap.size ≤ q) s.heap H locs) (ls : Array Slot) (hl : lv_has ls 9 [(0, .ref b), (1, .ref x0), (2, .ref x9), (3, .ref ow), (4, .ref od), (5, .int (nI i))]) (hrc : cells + 2 ≤ 603072) (hrs : slots + 96 ≤ 7202922) (harm : zArmS G D cy l I x9 yL_hold wsL_hold [.ref x0, .int (xs (i + 1)), .ref ow] yX6_hold wsX6_hold [.ref x9, .int (xs (i + 1))] (fun w' b => zOut ow cy w' b.toInt64) w mw) (kn : ∀ (w' m' : va_W) (H1 : Heap) (locs1 : List Loc) (ls1 : Array Slot), I w' m' → va_P D vwCl (w' ++ m') H1 → va_D (fun q => s.heap.size ≤ q) (w' ++ m') → va_S (fun q => s.heap.size ≤ q) s.heap H1 locs1 → lv_has ls1 9 [(0, .ref b), (1, .ref x0), (2, .ref x9), (3, .ref ow), (4, .ref od), (5, .int (nI i))] → W p l e room_1 s m args below meth c H1 locs1 (cells + 2) (slots + 96) Q (F0 m 2834 ls1 [])) : W p l e room_1 s m args below meth c H locs cells slots Q (F0 m 416 ls []) := by
  refine lv_aload_n hx hb dL_law_416 rfl (lv_at hl 1 rfl) ?_
  refine lv_aload_n hx hb dL_law_417 rfl (lv_at hl 0 rfl) ?_
  refine lv_iload hx hb dL_law_418 (lv_at hl 5 rfl) ?_
  refine lv_iconst (v := 1) hx hb dL_law_420 (by decide) ?_
  refine lv_iadd hx hb dL_law_421 ?_
  refine z_top (y := nI (i + 1)) (nI_add i 1) ?_
  refine va_sld hx hb hX hbl (Nat.not_le.mpr hbl) hS (vp_in_nI (n := i + 1) (by omega) (by omega)) dL_law_422 ?_
  refine z_top (y := xs (i + 1)) (by rw [nI_clamp (by omega)]) ?_
  refine lv_aload_n hx hb dL_law_423 rfl (lv_at hl 3 rfl) ?_
  obtain ⟨Φ, Ψ, hM1, hM2, hpure⟩ := harm
  refine zlS (As := [.ref x0, .int (xs (i + 1)), .ref ow]) (rest := []) (hh := [(0, 9, 12, 13), (0, 9, 15, 17)]) hg.1.1.1.1.1 ⟨hx, hb, hml, hown, hts⟩ hM1 (vx_cwSW 3 hts gL_law_L_hold rfl rfl rfl (by decide +kernel) ⟨Nat.le_of_ble_eq_true rfl, Nat.le_of_ble_eq_true rfl⟩) hG hK hP hD hS (fun _ h => h) rfl hl.1 rfl (Nat.le_of_ble_eq_true rfl) dL_law_424 ⟨hrc, hrs⟩ (fun w1 o1 H locs h1 hP hD hS => ?_)
  obtain ⟨k, rfl, h1⟩ := h1
  have hP := va_P_swap hP
  have hD := va_D_swap hD
  refine lv_istore (lv' := [(6, .int k), (0, .ref b), (1, .ref x0), (2, .ref x9), (3, .ref ow), (4, .ref od), (5, .int (nI i))]) hx hb dL_law_427 hl (by decide) rfl (fun ls hl => ?_)
  refine lv_aload_n hx hb dL_law_429 rfl (lv_at hl 3 rfl) ?_
  refine lv_aload_n hx hb dL_law_430 rfl (lv_at hl 1 rfl) ?_
  refine lv_iload hx hb dL_law_431 (lv_at hl 6 rfl) ?_
  refine lv_iconst (v := 1) hx hb dL_law_433 (by decide) ?_
  refine lv_iadd hx hb dL_law_434 ?_
  refine z_top (y := nI (i + 1)) (nI_add i 1) ?_
  refine va_sld hx hb hX hbl (Nat.not_le.mpr hbl) hS (vp_in_nI (n := i + 1) (by omega) (by omega)) dL_law_435 ?_
  refine z_top (y := xs (i + 1)) (by rw [nI_clamp (by omega)]) ?_
  obtain ⟨⟨fs0, e0⟩, fs9, e9⟩ := hhd _ _ hI
  refine zlV (ci := 10) (As := [.int (xs (i + 1))]) (rest := []) 0 hg.1.1.1.1.1 ⟨hx, hb, hml, hown, hts⟩ hM2 (cwV 1 hts gL_law_X6_hold rfl rfl rfl (by decide +kernel) ⟨Nat.le_of_ble_eq_true rfl, Nat.le_of_ble_eq_true rfl⟩) hG hK hP hD hS (fun _ h => h) rfl e9 rfl hl.1 rfl (Nat.le_of_ble_eq_true rfl) dL_law_436 ⟨hrc, hrs⟩ (fun m1 o2 H locs h2 hP hD hS => ?_)
  obtain ⟨bb, rfl, h2⟩ := h2
  obtain ⟨hth, hko, hI1⟩ := hpure w1 k m1 bb h1 h2
  refine lv_istore (lv' := [(7, .int bb), (6, .int k), (0, .ref b), (1, .ref x0), (2, .ref x9), (3, .ref ow), (4, .ref od), (5, .int (nI i))]) hx hb dL_law_439 hl (by decide) rfl (fun ls hl => ?_)
  refine lv_aload_n hx hb dL_law_441 rfl (lv_at hl 4 rfl) ?_
  obtain ⟨⟨fs1, e1⟩, fs2, e2⟩ := hhd _ _ hI1
  refine zlV (ci := 10) (As := []) (rest := []) 0 hg.1.1.1.1.1 ⟨hx, hb, hml, hown, hts⟩ hth (cwV 0 hts gL_law_X6_thrown rfl rfl rfl (by decide +kernel) ⟨Nat.le_of_ble_eq_true rfl, Nat.le_of_ble_eq_true rfl⟩) hG hK hP hD hS (fun _ h => h) rfl e2 rfl hl.1 rfl (Nat.le_of_ble_eq_true rfl) dL_law_442 ⟨hrc, hrs⟩ (fun m2 o3 H locs h3 hP hD hS => ?_)
  obtain ⟨em, rfl⟩ := h3
  rw [em] at hP hD
  have hP := va_P_swap hP
  have hD := va_D_swap hD
  refine lv_iload hx hb dL_law_445 (lv_at hl 1 rfl) ?_
  refine lv_icmp_eq (tgt := 452) hx hb dL_law_447 (by decide) (fun c9 => ?_) (fun c9 => ?_)
  · skip
    refine lv_iload hx hb dL_law_452 (lv_at hl 1 rfl) ?_
    refine lv_if_ne (tgt := 469) hx hb dL_law_454 (by decide) (fun c9 => ?_) (fun c9 => ?_)
    · skip
      refine lv_goto (tgt := 2834) hx hb dL_law_469 (by decide) ?_
      exact kn w1 m1 H locs ls hI1 hP hD hS (lv_sub hl [2, 3, 4, 5, 6, 7] rfl)
    · skip
      obtain ⟨f, h47, hf⟩ := hko c9
      refine lv_aload_n hx hb dL_law_457 rfl (lv_at hl 5 rfl) ?_
      refine lv_iconst (v := 0) hx hb dL_law_458 (by decide) ?_
      refine z_top (y := nI 0) rfl ?_
      refine va_lald hx hb hK hP 47 3 (z_inl h47) rfl (vp_in_nI (n := 0) (by decide) (by decide)) dL_law_459 ?_
      rw [show f (nI 0).toNatClampNeg = _ from hf]
      refine lv_iload hx hb dL_law_460 (lv_at hl 0 rfl) ?_
      refine lv_i2l hx hb dL_law_462 rfl ?_
      refine W.lcmp hx hb dL_law_463 ?_
      refine z_top (y := 0) (lg_cmp_rf rfl) ?_
      refine lv_if_eq (tgt := 469) hx hb dL_law_464 (by decide) (fun c9 => ?_) (fun c9 => ?_)
      · skip
        refine lv_goto (tgt := 2834) hx hb dL_law_469 (by decide) ?_
        exact kn w1 m1 H locs ls hI1 hP hD hS (lv_sub hl [2, 3, 4, 5, 6, 7] rfl)
      · exact absurd rfl c9
  · exact absurd rfl c9

set_option maxHeartbeats 4000000 in
set_option maxRecDepth 100000 in
/-- release -/
theorem law_3 {G : zG} (hg : zGW G) {l : Launch} {D : va_G} {cy : Nat → ClassId} {I : va_W → va_W → Prop} {x0 x9 ow od b L : Nat} {xs : Nat → Int32} {p : Program} {e : Env} {s : State} {m : MethodId} {args : Array Value} {below : List Frame} {meth : Method} {c : Code} {H : Heap} {locs : List Loc} {cells slots : Nat} {Q : State → Prop} (hx : p.tables.exec = Jvm.exec) (hb : c.code = cL_law) (hml : c.maxLocals = 9) (hown : s.vm.findClass RL = some m.cls) (hts : ∀ w ∈ wsL_law, w.before args s = true) (hG : G (fun q => s.heap.size ≤ q) s) (hK : va_K D vwCl (zT cy) s) (hX : va_X b L xs s s.heap) (hbl : b < s.heap.size) {w mw : va_W} {i : Nat} (hi : i + 2 < L) (hL : L ≤ 1536) (hI : I w mw) (hhd : ∀ w m, I w m → zHd x0 x9 w m) (hP : va_P D vwCl (w ++ mw) H) (hD : va_D (fun q => s.heap.size ≤ q) (w ++ mw)) (hS : va_S (fun q => s.heap.size ≤ q) s.heap H locs) (ls : Array Slot) (hl : lv_has ls 9 [(0, .ref b), (1, .ref x0), (2, .ref x9), (3, .ref ow), (4, .ref od), (5, .int (nI i))]) (hrc : cells + 2 ≤ 603072) (hrs : slots + 96 ≤ 7202922) (harm : zArmS G D cy l I x9 yL_release wsL_release [.ref x0, .int (xs (i + 1)), .ref ow] yX6_release wsX6_release [.ref x9, .int (xs (i + 1))] (fun w' b => zOut ow cy w' b.toInt64) w mw) (kn : ∀ (w' m' : va_W) (H1 : Heap) (locs1 : List Loc) (ls1 : Array Slot), I w' m' → va_P D vwCl (w' ++ m') H1 → va_D (fun q => s.heap.size ≤ q) (w' ++ m') → va_S (fun q => s.heap.size ≤ q) s.heap H1 locs1 → lv_has ls1 9 [(0, .ref b), (1, .ref x0), (2, .ref x9), (3, .ref ow), (4, .ref od), (5, .int (nI i))] → W p l e room_1 s m args below meth c H1 locs1 (cells + 2) (slots + 96) Q (F0 m 2834 ls1 [])) : W p l e room_1 s m args below meth c H locs cells slots Q (F0 m 472 ls []) := by
  refine lv_aload_n hx hb dL_law_472 rfl (lv_at hl 1 rfl) ?_
  refine lv_aload_n hx hb dL_law_473 rfl (lv_at hl 0 rfl) ?_
  refine lv_iload hx hb dL_law_474 (lv_at hl 5 rfl) ?_
  refine lv_iconst (v := 1) hx hb dL_law_476 (by decide) ?_
  refine lv_iadd hx hb dL_law_477 ?_
  refine z_top (y := nI (i + 1)) (nI_add i 1) ?_
  refine va_sld hx hb hX hbl (Nat.not_le.mpr hbl) hS (vp_in_nI (n := i + 1) (by omega) (by omega)) dL_law_478 ?_
  refine z_top (y := xs (i + 1)) (by rw [nI_clamp (by omega)]) ?_
  refine lv_aload_n hx hb dL_law_479 rfl (lv_at hl 3 rfl) ?_
  obtain ⟨Φ, Ψ, hM1, hM2, hpure⟩ := harm
  refine zlS (As := [.ref x0, .int (xs (i + 1)), .ref ow]) (rest := []) (hh := [(0, 9, 12, 13), (0, 9, 15, 17)]) hg.1.1.1.1.1 ⟨hx, hb, hml, hown, hts⟩ hM1 (vx_cwSW 3 hts gL_law_L_release rfl rfl rfl (by decide +kernel) ⟨Nat.le_of_ble_eq_true rfl, Nat.le_of_ble_eq_true rfl⟩) hG hK hP hD hS (fun _ h => h) rfl hl.1 rfl (Nat.le_of_ble_eq_true rfl) dL_law_480 ⟨hrc, hrs⟩ (fun w1 o1 H locs h1 hP hD hS => ?_)
  obtain ⟨k, rfl, h1⟩ := h1
  have hP := va_P_swap hP
  have hD := va_D_swap hD
  refine lv_istore (lv' := [(6, .int k), (0, .ref b), (1, .ref x0), (2, .ref x9), (3, .ref ow), (4, .ref od), (5, .int (nI i))]) hx hb dL_law_483 hl (by decide) rfl (fun ls hl => ?_)
  refine lv_aload_n hx hb dL_law_485 rfl (lv_at hl 3 rfl) ?_
  refine lv_aload_n hx hb dL_law_486 rfl (lv_at hl 1 rfl) ?_
  refine lv_iload hx hb dL_law_487 (lv_at hl 6 rfl) ?_
  refine lv_iconst (v := 1) hx hb dL_law_489 (by decide) ?_
  refine lv_iadd hx hb dL_law_490 ?_
  refine z_top (y := nI (i + 1)) (nI_add i 1) ?_
  refine va_sld hx hb hX hbl (Nat.not_le.mpr hbl) hS (vp_in_nI (n := i + 1) (by omega) (by omega)) dL_law_491 ?_
  refine z_top (y := xs (i + 1)) (by rw [nI_clamp (by omega)]) ?_
  obtain ⟨⟨fs0, e0⟩, fs9, e9⟩ := hhd _ _ hI
  refine zlV (ci := 10) (As := [.int (xs (i + 1))]) (rest := []) 0 hg.1.1.1.1.1 ⟨hx, hb, hml, hown, hts⟩ hM2 (cwV 1 hts gL_law_X6_release rfl rfl rfl (by decide +kernel) ⟨Nat.le_of_ble_eq_true rfl, Nat.le_of_ble_eq_true rfl⟩) hG hK hP hD hS (fun _ h => h) rfl e9 rfl hl.1 rfl (Nat.le_of_ble_eq_true rfl) dL_law_492 ⟨hrc, hrs⟩ (fun m1 o2 H locs h2 hP hD hS => ?_)
  obtain ⟨bb, rfl, h2⟩ := h2
  obtain ⟨hth, hko, hI1⟩ := hpure w1 k m1 bb h1 h2
  refine lv_istore (lv' := [(7, .int bb), (6, .int k), (0, .ref b), (1, .ref x0), (2, .ref x9), (3, .ref ow), (4, .ref od), (5, .int (nI i))]) hx hb dL_law_495 hl (by decide) rfl (fun ls hl => ?_)
  refine lv_aload_n hx hb dL_law_497 rfl (lv_at hl 4 rfl) ?_
  obtain ⟨⟨fs1, e1⟩, fs2, e2⟩ := hhd _ _ hI1
  refine zlV (ci := 10) (As := []) (rest := []) 0 hg.1.1.1.1.1 ⟨hx, hb, hml, hown, hts⟩ hth (cwV 0 hts gL_law_X6_thrown rfl rfl rfl (by decide +kernel) ⟨Nat.le_of_ble_eq_true rfl, Nat.le_of_ble_eq_true rfl⟩) hG hK hP hD hS (fun _ h => h) rfl e2 rfl hl.1 rfl (Nat.le_of_ble_eq_true rfl) dL_law_498 ⟨hrc, hrs⟩ (fun m2 o3 H locs h3 hP hD hS => ?_)
  obtain ⟨em, rfl⟩ := h3
  rw [em] at hP hD
  have hP := va_P_swap hP
  have hD := va_D_swap hD
  refine lv_iload hx hb dL_law_501 (lv_at hl 1 rfl) ?_
  refine lv_icmp_eq (tgt := 508) hx hb dL_law_503 (by decide) (fun c9 => ?_) (fun c9 => ?_)
  · skip
    refine lv_iload hx hb dL_law_508 (lv_at hl 1 rfl) ?_
    refine lv_if_ne (tgt := 525) hx hb dL_law_510 (by decide) (fun c9 => ?_) (fun c9 => ?_)
    · skip
      refine lv_goto (tgt := 2834) hx hb dL_law_525 (by decide) ?_
      exact kn w1 m1 H locs ls hI1 hP hD hS (lv_sub hl [2, 3, 4, 5, 6, 7] rfl)
    · skip
      obtain ⟨f, h47, hf⟩ := hko c9
      refine lv_aload_n hx hb dL_law_513 rfl (lv_at hl 5 rfl) ?_
      refine lv_iconst (v := 0) hx hb dL_law_514 (by decide) ?_
      refine z_top (y := nI 0) rfl ?_
      refine va_lald hx hb hK hP 47 3 (z_inl h47) rfl (vp_in_nI (n := 0) (by decide) (by decide)) dL_law_515 ?_
      rw [show f (nI 0).toNatClampNeg = _ from hf]
      refine lv_iload hx hb dL_law_516 (lv_at hl 0 rfl) ?_
      refine lv_i2l hx hb dL_law_518 rfl ?_
      refine W.lcmp hx hb dL_law_519 ?_
      refine z_top (y := 0) (lg_cmp_rf rfl) ?_
      refine lv_if_eq (tgt := 525) hx hb dL_law_520 (by decide) (fun c9 => ?_) (fun c9 => ?_)
      · skip
        refine lv_goto (tgt := 2834) hx hb dL_law_525 (by decide) ?_
        exact kn w1 m1 H locs ls hI1 hP hD hS (lv_sub hl [2, 3, 4, 5, 6, 7] rfl)
      · exact absurd rfl c9
  · exact absurd rfl c9

set_option maxHeartbeats 4000000 in
set_option maxRecDepth 100000 in
/-- dropStitch -/
theorem law_4 {G : zG} (hg : zGW G) {l : Launch} {D : va_G} {cy : Nat → ClassId} {I : va_W → va_W → Prop} {x0 x9 ow od b L : Nat} {xs : Nat → Int32} {p : Program} {e : Env} {s : State} {m : MethodId} {args : Array Value} {below : List Frame} {meth : Method} {c : Code} {H : Heap} {locs : List Loc} {cells slots : Nat} {Q : State → Prop} (hx : p.tables.exec = Jvm.exec) (hb : c.code = cL_law) (hml : c.maxLocals = 9) (hown : s.vm.findClass RL = some m.cls) (hts : ∀ w ∈ wsL_law, w.before args s = true) (hG : G (fun q => s.heap.size ≤ q) s) (hK : va_K D vwCl (zT cy) s) (hX : va_X b L xs s s.heap) (hbl : b < s.heap.size) {w mw : va_W} {i : Nat} (hi : i + 2 < L) (hL : L ≤ 1536) (hI : I w mw) (hhd : ∀ w m, I w m → zHd x0 x9 w m) (hP : va_P D vwCl (w ++ mw) H) (hD : va_D (fun q => s.heap.size ≤ q) (w ++ mw)) (hS : va_S (fun q => s.heap.size ≤ q) s.heap H locs) (ls : Array Slot) (hl : lv_has ls 9 [(0, .ref b), (1, .ref x0), (2, .ref x9), (3, .ref ow), (4, .ref od), (5, .int (nI i))]) (hrc : cells + 2 ≤ 603072) (hrs : slots + 96 ≤ 7202922) (harm : zArmS G D cy l I x9 yL_dropStitch wsL_dropStitch [.ref x0, .int (xs (i + 1)), .ref ow] yX6_dropStitch wsX6_dropStitch [.ref x9, .int (xs (i + 1))] (fun w' b => zOut ow cy w' b.toInt64) w mw) (kn : ∀ (w' m' : va_W) (H1 : Heap) (locs1 : List Loc) (ls1 : Array Slot), I w' m' → va_P D vwCl (w' ++ m') H1 → va_D (fun q => s.heap.size ≤ q) (w' ++ m') → va_S (fun q => s.heap.size ≤ q) s.heap H1 locs1 → lv_has ls1 9 [(0, .ref b), (1, .ref x0), (2, .ref x9), (3, .ref ow), (4, .ref od), (5, .int (nI i))] → W p l e room_1 s m args below meth c H1 locs1 (cells + 2) (slots + 96) Q (F0 m 2834 ls1 [])) : W p l e room_1 s m args below meth c H locs cells slots Q (F0 m 528 ls []) := by
  refine lv_aload_n hx hb dL_law_528 rfl (lv_at hl 1 rfl) ?_
  refine lv_aload_n hx hb dL_law_529 rfl (lv_at hl 0 rfl) ?_
  refine lv_iload hx hb dL_law_530 (lv_at hl 5 rfl) ?_
  refine lv_iconst (v := 1) hx hb dL_law_532 (by decide) ?_
  refine lv_iadd hx hb dL_law_533 ?_
  refine z_top (y := nI (i + 1)) (nI_add i 1) ?_
  refine va_sld hx hb hX hbl (Nat.not_le.mpr hbl) hS (vp_in_nI (n := i + 1) (by omega) (by omega)) dL_law_534 ?_
  refine z_top (y := xs (i + 1)) (by rw [nI_clamp (by omega)]) ?_
  refine lv_aload_n hx hb dL_law_535 rfl (lv_at hl 3 rfl) ?_
  obtain ⟨Φ, Ψ, hM1, hM2, hpure⟩ := harm
  refine zlS (As := [.ref x0, .int (xs (i + 1)), .ref ow]) (rest := []) (hh := [(0, 9, 12, 13), (0, 9, 15, 17)]) hg.1.1.1.1.1 ⟨hx, hb, hml, hown, hts⟩ hM1 (vx_cwSW 3 hts gL_law_L_dropStitch rfl rfl rfl (by decide +kernel) ⟨Nat.le_of_ble_eq_true rfl, Nat.le_of_ble_eq_true rfl⟩) hG hK hP hD hS (fun _ h => h) rfl hl.1 rfl (Nat.le_of_ble_eq_true rfl) dL_law_536 ⟨hrc, hrs⟩ (fun w1 o1 H locs h1 hP hD hS => ?_)
  obtain ⟨k, rfl, h1⟩ := h1
  have hP := va_P_swap hP
  have hD := va_D_swap hD
  refine lv_istore (lv' := [(6, .int k), (0, .ref b), (1, .ref x0), (2, .ref x9), (3, .ref ow), (4, .ref od), (5, .int (nI i))]) hx hb dL_law_539 hl (by decide) rfl (fun ls hl => ?_)
  refine lv_aload_n hx hb dL_law_541 rfl (lv_at hl 3 rfl) ?_
  refine lv_aload_n hx hb dL_law_542 rfl (lv_at hl 1 rfl) ?_
  refine lv_iload hx hb dL_law_543 (lv_at hl 6 rfl) ?_
  refine lv_iconst (v := 1) hx hb dL_law_545 (by decide) ?_
  refine lv_iadd hx hb dL_law_546 ?_
  refine z_top (y := nI (i + 1)) (nI_add i 1) ?_
  refine va_sld hx hb hX hbl (Nat.not_le.mpr hbl) hS (vp_in_nI (n := i + 1) (by omega) (by omega)) dL_law_547 ?_
  refine z_top (y := xs (i + 1)) (by rw [nI_clamp (by omega)]) ?_
  obtain ⟨⟨fs0, e0⟩, fs9, e9⟩ := hhd _ _ hI
  refine zlV (ci := 10) (As := [.int (xs (i + 1))]) (rest := []) 0 hg.1.1.1.1.1 ⟨hx, hb, hml, hown, hts⟩ hM2 (cwV 1 hts gL_law_X6_dropStitch rfl rfl rfl (by decide +kernel) ⟨Nat.le_of_ble_eq_true rfl, Nat.le_of_ble_eq_true rfl⟩) hG hK hP hD hS (fun _ h => h) rfl e9 rfl hl.1 rfl (Nat.le_of_ble_eq_true rfl) dL_law_548 ⟨hrc, hrs⟩ (fun m1 o2 H locs h2 hP hD hS => ?_)
  obtain ⟨bb, rfl, h2⟩ := h2
  obtain ⟨hth, hko, hI1⟩ := hpure w1 k m1 bb h1 h2
  refine lv_istore (lv' := [(7, .int bb), (6, .int k), (0, .ref b), (1, .ref x0), (2, .ref x9), (3, .ref ow), (4, .ref od), (5, .int (nI i))]) hx hb dL_law_551 hl (by decide) rfl (fun ls hl => ?_)
  refine lv_aload_n hx hb dL_law_553 rfl (lv_at hl 4 rfl) ?_
  obtain ⟨⟨fs1, e1⟩, fs2, e2⟩ := hhd _ _ hI1
  refine zlV (ci := 10) (As := []) (rest := []) 0 hg.1.1.1.1.1 ⟨hx, hb, hml, hown, hts⟩ hth (cwV 0 hts gL_law_X6_thrown rfl rfl rfl (by decide +kernel) ⟨Nat.le_of_ble_eq_true rfl, Nat.le_of_ble_eq_true rfl⟩) hG hK hP hD hS (fun _ h => h) rfl e2 rfl hl.1 rfl (Nat.le_of_ble_eq_true rfl) dL_law_554 ⟨hrc, hrs⟩ (fun m2 o3 H locs h3 hP hD hS => ?_)
  obtain ⟨em, rfl⟩ := h3
  rw [em] at hP hD
  have hP := va_P_swap hP
  have hD := va_D_swap hD
  refine lv_iload hx hb dL_law_557 (lv_at hl 1 rfl) ?_
  refine lv_icmp_eq (tgt := 564) hx hb dL_law_559 (by decide) (fun c9 => ?_) (fun c9 => ?_)
  · skip
    refine lv_iload hx hb dL_law_564 (lv_at hl 1 rfl) ?_
    refine lv_if_ne (tgt := 581) hx hb dL_law_566 (by decide) (fun c9 => ?_) (fun c9 => ?_)
    · skip
      refine lv_goto (tgt := 2834) hx hb dL_law_581 (by decide) ?_
      exact kn w1 m1 H locs ls hI1 hP hD hS (lv_sub hl [2, 3, 4, 5, 6, 7] rfl)
    · skip
      obtain ⟨f, h47, hf⟩ := hko c9
      refine lv_aload_n hx hb dL_law_569 rfl (lv_at hl 5 rfl) ?_
      refine lv_iconst (v := 0) hx hb dL_law_570 (by decide) ?_
      refine z_top (y := nI 0) rfl ?_
      refine va_lald hx hb hK hP 47 3 (z_inl h47) rfl (vp_in_nI (n := 0) (by decide) (by decide)) dL_law_571 ?_
      rw [show f (nI 0).toNatClampNeg = _ from hf]
      refine lv_iload hx hb dL_law_572 (lv_at hl 0 rfl) ?_
      refine lv_i2l hx hb dL_law_574 rfl ?_
      refine W.lcmp hx hb dL_law_575 ?_
      refine z_top (y := 0) (lg_cmp_rf rfl) ?_
      refine lv_if_eq (tgt := 581) hx hb dL_law_576 (by decide) (fun c9 => ?_) (fun c9 => ?_)
      · skip
        refine lv_goto (tgt := 2834) hx hb dL_law_581 (by decide) ?_
        exact kn w1 m1 H locs ls hI1 hP hD hS (lv_sub hl [2, 3, 4, 5, 6, 7] rfl)
      · exact absurd rfl c9
  · exact absurd rfl c9

set_option maxHeartbeats 4000000 in
set_option maxRecDepth 100000 in
/-- pickUp -/
theorem law_5 {G : zG} (hg : zGW G) {l : Launch} {D : va_G} {cy : Nat → ClassId} {I : va_W → va_W → Prop} {x0 x9 ow od b L : Nat} {xs : Nat → Int32} {p : Program} {e : Env} {s : State} {m : MethodId} {args : Array Value} {below : List Frame} {meth : Method} {c : Code} {H : Heap} {locs : List Loc} {cells slots : Nat} {Q : State → Prop} (hx : p.tables.exec = Jvm.exec) (hb : c.code = cL_law) (hml : c.maxLocals = 9) (hown : s.vm.findClass RL = some m.cls) (hts : ∀ w ∈ wsL_law, w.before args s = true) (hG : G (fun q => s.heap.size ≤ q) s) (hK : va_K D vwCl (zT cy) s) (hX : va_X b L xs s s.heap) (hbl : b < s.heap.size) {w mw : va_W} {i : Nat} (hi : i + 2 < L) (hL : L ≤ 1536) (hI : I w mw) (hhd : ∀ w m, I w m → zHd x0 x9 w m) (hP : va_P D vwCl (w ++ mw) H) (hD : va_D (fun q => s.heap.size ≤ q) (w ++ mw)) (hS : va_S (fun q => s.heap.size ≤ q) s.heap H locs) (ls : Array Slot) (hl : lv_has ls 9 [(0, .ref b), (1, .ref x0), (2, .ref x9), (3, .ref ow), (4, .ref od), (5, .int (nI i))]) (hrc : cells + 2 ≤ 603072) (hrs : slots + 96 ≤ 7202922) (harm : zArmS G D cy l I x9 yL_pickUp wsL_pickUp [.ref x0, .int (xs (i + 1)), .ref ow] yX6_pickUp wsX6_pickUp [.ref x9, .int (xs (i + 1))] (fun w' b => zOut ow cy w' b.toInt64) w mw) (kn : ∀ (w' m' : va_W) (H1 : Heap) (locs1 : List Loc) (ls1 : Array Slot), I w' m' → va_P D vwCl (w' ++ m') H1 → va_D (fun q => s.heap.size ≤ q) (w' ++ m') → va_S (fun q => s.heap.size ≤ q) s.heap H1 locs1 → lv_has ls1 9 [(0, .ref b), (1, .ref x0), (2, .ref x9), (3, .ref ow), (4, .ref od), (5, .int (nI i))] → W p l e room_1 s m args below meth c H1 locs1 (cells + 2) (slots + 96) Q (F0 m 2834 ls1 [])) : W p l e room_1 s m args below meth c H locs cells slots Q (F0 m 584 ls []) := by
  refine lv_aload_n hx hb dL_law_584 rfl (lv_at hl 1 rfl) ?_
  refine lv_aload_n hx hb dL_law_585 rfl (lv_at hl 0 rfl) ?_
  refine lv_iload hx hb dL_law_586 (lv_at hl 5 rfl) ?_
  refine lv_iconst (v := 1) hx hb dL_law_588 (by decide) ?_
  refine lv_iadd hx hb dL_law_589 ?_
  refine z_top (y := nI (i + 1)) (nI_add i 1) ?_
  refine va_sld hx hb hX hbl (Nat.not_le.mpr hbl) hS (vp_in_nI (n := i + 1) (by omega) (by omega)) dL_law_590 ?_
  refine z_top (y := xs (i + 1)) (by rw [nI_clamp (by omega)]) ?_
  refine lv_aload_n hx hb dL_law_591 rfl (lv_at hl 3 rfl) ?_
  obtain ⟨Φ, Ψ, hM1, hM2, hpure⟩ := harm
  refine zlS (As := [.ref x0, .int (xs (i + 1)), .ref ow]) (rest := []) (hh := [(0, 9, 12, 13), (0, 9, 15, 17)]) hg.1.1.1.1.1 ⟨hx, hb, hml, hown, hts⟩ hM1 (vx_cwSW 3 hts gL_law_L_pickUp rfl rfl rfl (by decide +kernel) ⟨Nat.le_of_ble_eq_true rfl, Nat.le_of_ble_eq_true rfl⟩) hG hK hP hD hS (fun _ h => h) rfl hl.1 rfl (Nat.le_of_ble_eq_true rfl) dL_law_592 ⟨hrc, hrs⟩ (fun w1 o1 H locs h1 hP hD hS => ?_)
  obtain ⟨k, rfl, h1⟩ := h1
  have hP := va_P_swap hP
  have hD := va_D_swap hD
  refine lv_istore (lv' := [(6, .int k), (0, .ref b), (1, .ref x0), (2, .ref x9), (3, .ref ow), (4, .ref od), (5, .int (nI i))]) hx hb dL_law_595 hl (by decide) rfl (fun ls hl => ?_)
  refine lv_aload_n hx hb dL_law_597 rfl (lv_at hl 3 rfl) ?_
  refine lv_aload_n hx hb dL_law_598 rfl (lv_at hl 1 rfl) ?_
  refine lv_iload hx hb dL_law_599 (lv_at hl 6 rfl) ?_
  refine lv_iconst (v := 1) hx hb dL_law_601 (by decide) ?_
  refine lv_iadd hx hb dL_law_602 ?_
  refine z_top (y := nI (i + 1)) (nI_add i 1) ?_
  refine va_sld hx hb hX hbl (Nat.not_le.mpr hbl) hS (vp_in_nI (n := i + 1) (by omega) (by omega)) dL_law_603 ?_
  refine z_top (y := xs (i + 1)) (by rw [nI_clamp (by omega)]) ?_
  obtain ⟨⟨fs0, e0⟩, fs9, e9⟩ := hhd _ _ hI
  refine zlV (ci := 10) (As := [.int (xs (i + 1))]) (rest := []) 0 hg.1.1.1.1.1 ⟨hx, hb, hml, hown, hts⟩ hM2 (cwV 1 hts gL_law_X6_pickUp rfl rfl rfl (by decide +kernel) ⟨Nat.le_of_ble_eq_true rfl, Nat.le_of_ble_eq_true rfl⟩) hG hK hP hD hS (fun _ h => h) rfl e9 rfl hl.1 rfl (Nat.le_of_ble_eq_true rfl) dL_law_604 ⟨hrc, hrs⟩ (fun m1 o2 H locs h2 hP hD hS => ?_)
  obtain ⟨bb, rfl, h2⟩ := h2
  obtain ⟨hth, hko, hI1⟩ := hpure w1 k m1 bb h1 h2
  refine lv_istore (lv' := [(7, .int bb), (6, .int k), (0, .ref b), (1, .ref x0), (2, .ref x9), (3, .ref ow), (4, .ref od), (5, .int (nI i))]) hx hb dL_law_607 hl (by decide) rfl (fun ls hl => ?_)
  refine lv_aload_n hx hb dL_law_609 rfl (lv_at hl 4 rfl) ?_
  obtain ⟨⟨fs1, e1⟩, fs2, e2⟩ := hhd _ _ hI1
  refine zlV (ci := 10) (As := []) (rest := []) 0 hg.1.1.1.1.1 ⟨hx, hb, hml, hown, hts⟩ hth (cwV 0 hts gL_law_X6_thrown rfl rfl rfl (by decide +kernel) ⟨Nat.le_of_ble_eq_true rfl, Nat.le_of_ble_eq_true rfl⟩) hG hK hP hD hS (fun _ h => h) rfl e2 rfl hl.1 rfl (Nat.le_of_ble_eq_true rfl) dL_law_610 ⟨hrc, hrs⟩ (fun m2 o3 H locs h3 hP hD hS => ?_)
  obtain ⟨em, rfl⟩ := h3
  rw [em] at hP hD
  have hP := va_P_swap hP
  have hD := va_D_swap hD
  refine lv_iload hx hb dL_law_613 (lv_at hl 1 rfl) ?_
  refine lv_icmp_eq (tgt := 620) hx hb dL_law_615 (by decide) (fun c9 => ?_) (fun c9 => ?_)
  · skip
    refine lv_iload hx hb dL_law_620 (lv_at hl 1 rfl) ?_
    refine lv_if_ne (tgt := 637) hx hb dL_law_622 (by decide) (fun c9 => ?_) (fun c9 => ?_)
    · skip
      refine lv_goto (tgt := 2834) hx hb dL_law_637 (by decide) ?_
      exact kn w1 m1 H locs ls hI1 hP hD hS (lv_sub hl [2, 3, 4, 5, 6, 7] rfl)
    · skip
      obtain ⟨f, h47, hf⟩ := hko c9
      refine lv_aload_n hx hb dL_law_625 rfl (lv_at hl 5 rfl) ?_
      refine lv_iconst (v := 0) hx hb dL_law_626 (by decide) ?_
      refine z_top (y := nI 0) rfl ?_
      refine va_lald hx hb hK hP 47 3 (z_inl h47) rfl (vp_in_nI (n := 0) (by decide) (by decide)) dL_law_627 ?_
      rw [show f (nI 0).toNatClampNeg = _ from hf]
      refine lv_iload hx hb dL_law_628 (lv_at hl 0 rfl) ?_
      refine lv_i2l hx hb dL_law_630 rfl ?_
      refine W.lcmp hx hb dL_law_631 ?_
      refine z_top (y := 0) (lg_cmp_rf rfl) ?_
      refine lv_if_eq (tgt := 637) hx hb dL_law_632 (by decide) (fun c9 => ?_) (fun c9 => ?_)
      · skip
        refine lv_goto (tgt := 2834) hx hb dL_law_637 (by decide) ?_
        exact kn w1 m1 H locs ls hI1 hP hD hS (lv_sub hl [2, 3, 4, 5, 6, 7] rfl)
      · exact absurd rfl c9
  · exact absurd rfl c9

set_option maxHeartbeats 4000000 in
set_option maxRecDepth 100000 in
/-- transfer -/
theorem law_6 {G : zG} (hg : zGW G) {l : Launch} {D : va_G} {cy : Nat → ClassId} {I : va_W → va_W → Prop} {x0 x9 ow od b L : Nat} {xs : Nat → Int32} {p : Program} {e : Env} {s : State} {m : MethodId} {args : Array Value} {below : List Frame} {meth : Method} {c : Code} {H : Heap} {locs : List Loc} {cells slots : Nat} {Q : State → Prop} (hx : p.tables.exec = Jvm.exec) (hb : c.code = cL_law) (hml : c.maxLocals = 9) (hown : s.vm.findClass RL = some m.cls) (hts : ∀ w ∈ wsL_law, w.before args s = true) (hG : G (fun q => s.heap.size ≤ q) s) (hK : va_K D vwCl (zT cy) s) (hX : va_X b L xs s s.heap) (hbl : b < s.heap.size) {w mw : va_W} {i : Nat} (hi : i + 2 < L) (hL : L ≤ 1536) (hI : I w mw) (hhd : ∀ w m, I w m → zHd x0 x9 w m) (hP : va_P D vwCl (w ++ mw) H) (hD : va_D (fun q => s.heap.size ≤ q) (w ++ mw)) (hS : va_S (fun q => s.heap.size ≤ q) s.heap H locs) (ls : Array Slot) (hl : lv_has ls 9 [(0, .ref b), (1, .ref x0), (2, .ref x9), (3, .ref ow), (4, .ref od), (5, .int (nI i))]) (hrc : cells + 2 ≤ 603072) (hrs : slots + 96 ≤ 7202922) (harm : ∀ t : Int32, (t = 0 ∨ t = 1) → zArmS G D cy l I x9 yL_transfer wsL_transfer [.ref x0, .int (xs (i + 1)), .int t, .ref ow] yX6_transfer wsX6_transfer [.ref x9, .int (xs (i + 1)), .int t] (fun w' b => zOut ow cy w' b.toInt64) w mw) (kn : ∀ (w' m' : va_W) (H1 : Heap) (locs1 : List Loc) (ls1 : Array Slot), I w' m' → va_P D vwCl (w' ++ m') H1 → va_D (fun q => s.heap.size ≤ q) (w' ++ m') → va_S (fun q => s.heap.size ≤ q) s.heap H1 locs1 → lv_has ls1 9 [(0, .ref b), (1, .ref x0), (2, .ref x9), (3, .ref ow), (4, .ref od), (5, .int (nI i))] → W p l e room_1 s m args below meth c H1 locs1 (cells + 2) (slots + 96) Q (F0 m 2834 ls1 [])) : W p l e room_1 s m args below meth c H locs cells slots Q (F0 m 640 ls []) := by
  refine lv_aload_n hx hb dL_law_640 rfl (lv_at hl 1 rfl) ?_
  refine lv_aload_n hx hb dL_law_641 rfl (lv_at hl 0 rfl) ?_
  refine lv_iload hx hb dL_law_642 (lv_at hl 5 rfl) ?_
  refine lv_iconst (v := 1) hx hb dL_law_644 (by decide) ?_
  refine lv_iadd hx hb dL_law_645 ?_
  refine z_top (y := nI (i + 1)) (nI_add i 1) ?_
  refine va_sld hx hb hX hbl (Nat.not_le.mpr hbl) hS (vp_in_nI (n := i + 1) (by omega) (by omega)) dL_law_646 ?_
  refine z_top (y := xs (i + 1)) (by rw [nI_clamp (by omega)]) ?_
  refine lv_aload_n hx hb dL_law_647 rfl (lv_at hl 0 rfl) ?_
  refine lv_iload hx hb dL_law_648 (lv_at hl 5 rfl) ?_
  refine lv_iconst (v := 2) hx hb dL_law_650 (by decide) ?_
  refine lv_iadd hx hb dL_law_651 ?_
  refine z_top (y := nI (i + 2)) (nI_add i 2) ?_
  refine va_sld hx hb hX hbl (Nat.not_le.mpr hbl) hS (vp_in_nI (n := i + 2) (by omega) (by omega)) dL_law_652 ?_
  refine z_top (y := xs (i + 2)) (by rw [nI_clamp (by omega)]) ?_
  refine lv_if_eq (tgt := 660) hx hb dL_law_653 (by decide) (fun c9 => ?_) (fun c9 => ?_)
  · have cx := c9
    refine lv_iconst (v := 0) hx hb dL_law_660 (by decide) ?_
    refine lv_aload_n hx hb dL_law_661 rfl (lv_at hl 3 rfl) ?_
    obtain ⟨Φ, Ψ, hM1, hM2, hpure⟩ := harm 0 (by decide)
    refine zlS (As := [.ref x0, .int (xs (i + 1)), .int 0, .ref ow]) (rest := []) (hh := [(0, 10, 13, 13), (0, 10, 17, 17)]) hg.1.1.1.1.1 ⟨hx, hb, hml, hown, hts⟩ hM1 (vx_cwSW 4 hts gL_law_L_transfer rfl rfl rfl (by decide +kernel) ⟨Nat.le_of_ble_eq_true rfl, Nat.le_of_ble_eq_true rfl⟩) hG hK hP hD hS (fun _ h => h) rfl hl.1 rfl (Nat.le_of_ble_eq_true rfl) dL_law_662 ⟨hrc, hrs⟩ (fun w1 o1 H locs h1 hP hD hS => ?_)
    obtain ⟨k, rfl, h1⟩ := h1
    have hP := va_P_swap hP
    have hD := va_D_swap hD
    refine lv_istore (lv' := [(6, .int k), (0, .ref b), (1, .ref x0), (2, .ref x9), (3, .ref ow), (4, .ref od), (5, .int (nI i))]) hx hb dL_law_665 hl (by decide) rfl (fun ls hl => ?_)
    refine lv_aload_n hx hb dL_law_667 rfl (lv_at hl 3 rfl) ?_
    refine lv_aload_n hx hb dL_law_668 rfl (lv_at hl 1 rfl) ?_
    refine lv_iload hx hb dL_law_669 (lv_at hl 6 rfl) ?_
    refine lv_iconst (v := 1) hx hb dL_law_671 (by decide) ?_
    refine lv_iadd hx hb dL_law_672 ?_
    refine z_top (y := nI (i + 1)) (nI_add i 1) ?_
    refine va_sld hx hb hX hbl (Nat.not_le.mpr hbl) hS (vp_in_nI (n := i + 1) (by omega) (by omega)) dL_law_673 ?_
    refine z_top (y := xs (i + 1)) (by rw [nI_clamp (by omega)]) ?_
    refine lv_aload_n hx hb dL_law_674 rfl (lv_at hl 1 rfl) ?_
    refine lv_iload hx hb dL_law_675 (lv_at hl 6 rfl) ?_
    refine lv_iconst (v := 2) hx hb dL_law_677 (by decide) ?_
    refine lv_iadd hx hb dL_law_678 ?_
    refine z_top (y := nI (i + 2)) (nI_add i 2) ?_
    refine va_sld hx hb hX hbl (Nat.not_le.mpr hbl) hS (vp_in_nI (n := i + 2) (by omega) (by omega)) dL_law_679 ?_
    refine z_top (y := xs (i + 2)) (by rw [nI_clamp (by omega)]) ?_
    refine lv_if_eq (tgt := 687) hx hb dL_law_680 (by decide) (fun c9 => ?_) (fun c9 => ?_)
    · skip
      refine lv_iconst (v := 0) hx hb dL_law_687 (by decide) ?_
      obtain ⟨⟨fs0, e0⟩, fs9, e9⟩ := hhd _ _ hI
      refine zlV (ci := 10) (As := [.int (xs (i + 1)), .int 0]) (rest := []) 0 hg.1.1.1.1.1 ⟨hx, hb, hml, hown, hts⟩ hM2 (cwV 2 hts gL_law_X6_transfer rfl rfl rfl (by decide +kernel) ⟨Nat.le_of_ble_eq_true rfl, Nat.le_of_ble_eq_true rfl⟩) hG hK hP hD hS (fun _ h => h) rfl e9 rfl hl.1 rfl (Nat.le_of_ble_eq_true rfl) dL_law_688 ⟨hrc, hrs⟩ (fun m1 o2 H locs h2 hP hD hS => ?_)
      obtain ⟨bb, rfl, h2⟩ := h2
      obtain ⟨hth, hko, hI1⟩ := hpure w1 k m1 bb h1 h2
      refine lv_istore (lv' := [(7, .int bb), (6, .int k), (0, .ref b), (1, .ref x0), (2, .ref x9), (3, .ref ow), (4, .ref od), (5, .int (nI i))]) hx hb dL_law_691 hl (by decide) rfl (fun ls hl => ?_)
      refine lv_aload_n hx hb dL_law_693 rfl (lv_at hl 4 rfl) ?_
      obtain ⟨⟨fs1, e1⟩, fs2, e2⟩ := hhd _ _ hI1
      refine zlV (ci := 10) (As := []) (rest := []) 0 hg.1.1.1.1.1 ⟨hx, hb, hml, hown, hts⟩ hth (cwV 0 hts gL_law_X6_thrown rfl rfl rfl (by decide +kernel) ⟨Nat.le_of_ble_eq_true rfl, Nat.le_of_ble_eq_true rfl⟩) hG hK hP hD hS (fun _ h => h) rfl e2 rfl hl.1 rfl (Nat.le_of_ble_eq_true rfl) dL_law_694 ⟨hrc, hrs⟩ (fun m2 o3 H locs h3 hP hD hS => ?_)
      obtain ⟨em, rfl⟩ := h3
      rw [em] at hP hD
      have hP := va_P_swap hP
      have hD := va_D_swap hD
      refine lv_iload hx hb dL_law_697 (lv_at hl 1 rfl) ?_
      refine lv_icmp_eq (tgt := 704) hx hb dL_law_699 (by decide) (fun c9 => ?_) (fun c9 => ?_)
      · skip
        refine lv_iload hx hb dL_law_704 (lv_at hl 1 rfl) ?_
        refine lv_if_ne (tgt := 721) hx hb dL_law_706 (by decide) (fun c9 => ?_) (fun c9 => ?_)
        · skip
          refine lv_goto (tgt := 2834) hx hb dL_law_721 (by decide) ?_
          exact kn w1 m1 H locs ls hI1 hP hD hS (lv_sub hl [2, 3, 4, 5, 6, 7] rfl)
        · skip
          obtain ⟨f, h47, hf⟩ := hko c9
          refine lv_aload_n hx hb dL_law_709 rfl (lv_at hl 5 rfl) ?_
          refine lv_iconst (v := 0) hx hb dL_law_710 (by decide) ?_
          refine z_top (y := nI 0) rfl ?_
          refine va_lald hx hb hK hP 47 3 (z_inl h47) rfl (vp_in_nI (n := 0) (by decide) (by decide)) dL_law_711 ?_
          rw [show f (nI 0).toNatClampNeg = _ from hf]
          refine lv_iload hx hb dL_law_712 (lv_at hl 0 rfl) ?_
          refine lv_i2l hx hb dL_law_714 rfl ?_
          refine W.lcmp hx hb dL_law_715 ?_
          refine z_top (y := 0) (lg_cmp_rf rfl) ?_
          refine lv_if_eq (tgt := 721) hx hb dL_law_716 (by decide) (fun c9 => ?_) (fun c9 => ?_)
          · skip
            refine lv_goto (tgt := 2834) hx hb dL_law_721 (by decide) ?_
            exact kn w1 m1 H locs ls hI1 hP hD hS (lv_sub hl [2, 3, 4, 5, 6, 7] rfl)
          · exact absurd rfl c9
      · exact absurd rfl c9
    · exact absurd cx c9
  · have cx := c9
    refine lv_iconst (v := 1) hx hb dL_law_656 (by decide) ?_
    refine lv_goto (tgt := 661) hx hb dL_law_657 (by decide) ?_
    refine lv_aload_n hx hb dL_law_661 rfl (lv_at hl 3 rfl) ?_
    obtain ⟨Φ, Ψ, hM1, hM2, hpure⟩ := harm 1 (by decide)
    refine zlS (As := [.ref x0, .int (xs (i + 1)), .int 1, .ref ow]) (rest := []) (hh := [(0, 10, 13, 13), (0, 10, 17, 17)]) hg.1.1.1.1.1 ⟨hx, hb, hml, hown, hts⟩ hM1 (vx_cwSW 4 hts gL_law_L_transfer rfl rfl rfl (by decide +kernel) ⟨Nat.le_of_ble_eq_true rfl, Nat.le_of_ble_eq_true rfl⟩) hG hK hP hD hS (fun _ h => h) rfl hl.1 rfl (Nat.le_of_ble_eq_true rfl) dL_law_662 ⟨hrc, hrs⟩ (fun w1 o1 H locs h1 hP hD hS => ?_)
    obtain ⟨k, rfl, h1⟩ := h1
    have hP := va_P_swap hP
    have hD := va_D_swap hD
    refine lv_istore (lv' := [(6, .int k), (0, .ref b), (1, .ref x0), (2, .ref x9), (3, .ref ow), (4, .ref od), (5, .int (nI i))]) hx hb dL_law_665 hl (by decide) rfl (fun ls hl => ?_)
    refine lv_aload_n hx hb dL_law_667 rfl (lv_at hl 3 rfl) ?_
    refine lv_aload_n hx hb dL_law_668 rfl (lv_at hl 1 rfl) ?_
    refine lv_iload hx hb dL_law_669 (lv_at hl 6 rfl) ?_
    refine lv_iconst (v := 1) hx hb dL_law_671 (by decide) ?_
    refine lv_iadd hx hb dL_law_672 ?_
    refine z_top (y := nI (i + 1)) (nI_add i 1) ?_
    refine va_sld hx hb hX hbl (Nat.not_le.mpr hbl) hS (vp_in_nI (n := i + 1) (by omega) (by omega)) dL_law_673 ?_
    refine z_top (y := xs (i + 1)) (by rw [nI_clamp (by omega)]) ?_
    refine lv_aload_n hx hb dL_law_674 rfl (lv_at hl 1 rfl) ?_
    refine lv_iload hx hb dL_law_675 (lv_at hl 6 rfl) ?_
    refine lv_iconst (v := 2) hx hb dL_law_677 (by decide) ?_
    refine lv_iadd hx hb dL_law_678 ?_
    refine z_top (y := nI (i + 2)) (nI_add i 2) ?_
    refine va_sld hx hb hX hbl (Nat.not_le.mpr hbl) hS (vp_in_nI (n := i + 2) (by omega) (by omega)) dL_law_679 ?_
    refine z_top (y := xs (i + 2)) (by rw [nI_clamp (by omega)]) ?_
    refine lv_if_eq (tgt := 687) hx hb dL_law_680 (by decide) (fun c9 => ?_) (fun c9 => ?_)
    · exact absurd c9 cx
    · skip
      refine lv_iconst (v := 1) hx hb dL_law_683 (by decide) ?_
      refine lv_goto (tgt := 688) hx hb dL_law_684 (by decide) ?_
      obtain ⟨⟨fs0, e0⟩, fs9, e9⟩ := hhd _ _ hI
      refine zlV (ci := 10) (As := [.int (xs (i + 1)), .int 1]) (rest := []) 0 hg.1.1.1.1.1 ⟨hx, hb, hml, hown, hts⟩ hM2 (cwV 2 hts gL_law_X6_transfer rfl rfl rfl (by decide +kernel) ⟨Nat.le_of_ble_eq_true rfl, Nat.le_of_ble_eq_true rfl⟩) hG hK hP hD hS (fun _ h => h) rfl e9 rfl hl.1 rfl (Nat.le_of_ble_eq_true rfl) dL_law_688 ⟨hrc, hrs⟩ (fun m1 o2 H locs h2 hP hD hS => ?_)
      obtain ⟨bb, rfl, h2⟩ := h2
      obtain ⟨hth, hko, hI1⟩ := hpure w1 k m1 bb h1 h2
      refine lv_istore (lv' := [(7, .int bb), (6, .int k), (0, .ref b), (1, .ref x0), (2, .ref x9), (3, .ref ow), (4, .ref od), (5, .int (nI i))]) hx hb dL_law_691 hl (by decide) rfl (fun ls hl => ?_)
      refine lv_aload_n hx hb dL_law_693 rfl (lv_at hl 4 rfl) ?_
      obtain ⟨⟨fs1, e1⟩, fs2, e2⟩ := hhd _ _ hI1
      refine zlV (ci := 10) (As := []) (rest := []) 0 hg.1.1.1.1.1 ⟨hx, hb, hml, hown, hts⟩ hth (cwV 0 hts gL_law_X6_thrown rfl rfl rfl (by decide +kernel) ⟨Nat.le_of_ble_eq_true rfl, Nat.le_of_ble_eq_true rfl⟩) hG hK hP hD hS (fun _ h => h) rfl e2 rfl hl.1 rfl (Nat.le_of_ble_eq_true rfl) dL_law_694 ⟨hrc, hrs⟩ (fun m2 o3 H locs h3 hP hD hS => ?_)
      obtain ⟨em, rfl⟩ := h3
      rw [em] at hP hD
      have hP := va_P_swap hP
      have hD := va_D_swap hD
      refine lv_iload hx hb dL_law_697 (lv_at hl 1 rfl) ?_
      refine lv_icmp_eq (tgt := 704) hx hb dL_law_699 (by decide) (fun c9 => ?_) (fun c9 => ?_)
      · skip
        refine lv_iload hx hb dL_law_704 (lv_at hl 1 rfl) ?_
        refine lv_if_ne (tgt := 721) hx hb dL_law_706 (by decide) (fun c9 => ?_) (fun c9 => ?_)
        · skip
          refine lv_goto (tgt := 2834) hx hb dL_law_721 (by decide) ?_
          exact kn w1 m1 H locs ls hI1 hP hD hS (lv_sub hl [2, 3, 4, 5, 6, 7] rfl)
        · skip
          obtain ⟨f, h47, hf⟩ := hko c9
          refine lv_aload_n hx hb dL_law_709 rfl (lv_at hl 5 rfl) ?_
          refine lv_iconst (v := 0) hx hb dL_law_710 (by decide) ?_
          refine z_top (y := nI 0) rfl ?_
          refine va_lald hx hb hK hP 47 3 (z_inl h47) rfl (vp_in_nI (n := 0) (by decide) (by decide)) dL_law_711 ?_
          rw [show f (nI 0).toNatClampNeg = _ from hf]
          refine lv_iload hx hb dL_law_712 (lv_at hl 0 rfl) ?_
          refine lv_i2l hx hb dL_law_714 rfl ?_
          refine W.lcmp hx hb dL_law_715 ?_
          refine z_top (y := 0) (lg_cmp_rf rfl) ?_
          refine lv_if_eq (tgt := 721) hx hb dL_law_716 (by decide) (fun c9 => ?_) (fun c9 => ?_)
          · skip
            refine lv_goto (tgt := 2834) hx hb dL_law_721 (by decide) ?_
            exact kn w1 m1 H locs ls hI1 hP hD hS (lv_sub hl [2, 3, 4, 5, 6, 7] rfl)
          · exact absurd rfl c9
      · exact absurd rfl c9

set_option maxHeartbeats 4000000 in
set_option maxRecDepth 100000 in
/-- isInWork -/
theorem law_7 {G : zG} (hg : zGW G) {l : Launch} {D : va_G} {cy : Nat → ClassId} {I : va_W → va_W → Prop} {x0 x9 ow od b L : Nat} {xs : Nat → Int32} {p : Program} {e : Env} {s : State} {m : MethodId} {args : Array Value} {below : List Frame} {meth : Method} {c : Code} {H : Heap} {locs : List Loc} {cells slots : Nat} {Q : State → Prop} (hx : p.tables.exec = Jvm.exec) (hb : c.code = cL_law) (hml : c.maxLocals = 9) (hown : s.vm.findClass RL = some m.cls) (hts : ∀ w ∈ wsL_law, w.before args s = true) (hG : G (fun q => s.heap.size ≤ q) s) (hK : va_K D vwCl (zT cy) s) (hX : va_X b L xs s s.heap) (hbl : b < s.heap.size) {w mw : va_W} {i : Nat} (hi : i + 2 < L) (hL : L ≤ 1536) (hI : I w mw) (hhd : ∀ w m, I w m → zHd x0 x9 w m) (hP : va_P D vwCl (w ++ mw) H) (hD : va_D (fun q => s.heap.size ≤ q) (w ++ mw)) (hS : va_S (fun q => s.heap.size ≤ q) s.heap H locs) (ls : Array Slot) (hl : lv_has ls 9 [(0, .ref b), (1, .ref x0), (2, .ref x9), (3, .ref ow), (4, .ref od), (5, .int (nI i))]) (hrc : cells + 2 ≤ 603072) (hrs : slots + 96 ≤ 7202922) (harm : zArmS G D cy l I x9 yL_isInWork wsL_isInWork [.ref x0, .int (xs (i + 1)), .ref ow] yX6_isInWork wsX6_isInWork [.ref x9, .int (xs (i + 1))] (fun w' b => zOut ow cy w' (if b = 0 then 0 else 1)) w mw) (kn : ∀ (w' m' : va_W) (H1 : Heap) (locs1 : List Loc) (ls1 : Array Slot), I w' m' → va_P D vwCl (w' ++ m') H1 → va_D (fun q => s.heap.size ≤ q) (w' ++ m') → va_S (fun q => s.heap.size ≤ q) s.heap H1 locs1 → lv_has ls1 9 [(0, .ref b), (1, .ref x0), (2, .ref x9), (3, .ref ow), (4, .ref od), (5, .int (nI i))] → W p l e room_1 s m args below meth c H1 locs1 (cells + 2) (slots + 96) Q (F0 m 2834 ls1 [])) : W p l e room_1 s m args below meth c H locs cells slots Q (F0 m 724 ls []) := by
  refine lv_aload_n hx hb dL_law_724 rfl (lv_at hl 1 rfl) ?_
  refine lv_aload_n hx hb dL_law_725 rfl (lv_at hl 0 rfl) ?_
  refine lv_iload hx hb dL_law_726 (lv_at hl 5 rfl) ?_
  refine lv_iconst (v := 1) hx hb dL_law_728 (by decide) ?_
  refine lv_iadd hx hb dL_law_729 ?_
  refine z_top (y := nI (i + 1)) (nI_add i 1) ?_
  refine va_sld hx hb hX hbl (Nat.not_le.mpr hbl) hS (vp_in_nI (n := i + 1) (by omega) (by omega)) dL_law_730 ?_
  refine z_top (y := xs (i + 1)) (by rw [nI_clamp (by omega)]) ?_
  refine lv_aload_n hx hb dL_law_731 rfl (lv_at hl 3 rfl) ?_
  obtain ⟨Φ, Ψ, hM1, hM2, hpure⟩ := harm
  refine zlS (As := [.ref x0, .int (xs (i + 1)), .ref ow]) (rest := []) (hh := [(0, 16, 19, 13)]) hg.1.1.1.1.1 ⟨hx, hb, hml, hown, hts⟩ hM1 (vx_cwSW 3 hts gL_law_L_isInWork rfl rfl rfl (by decide +kernel) ⟨Nat.le_of_ble_eq_true rfl, Nat.le_of_ble_eq_true rfl⟩) hG hK hP hD hS (fun _ h => h) rfl hl.1 rfl (Nat.le_of_ble_eq_true rfl) dL_law_732 ⟨hrc, hrs⟩ (fun w1 o1 H locs h1 hP hD hS => ?_)
  obtain ⟨k, rfl, h1⟩ := h1
  have hP := va_P_swap hP
  have hD := va_D_swap hD
  refine lv_istore (lv' := [(6, .int k), (0, .ref b), (1, .ref x0), (2, .ref x9), (3, .ref ow), (4, .ref od), (5, .int (nI i))]) hx hb dL_law_735 hl (by decide) rfl (fun ls hl => ?_)
  refine lv_aload_n hx hb dL_law_737 rfl (lv_at hl 3 rfl) ?_
  refine lv_aload_n hx hb dL_law_738 rfl (lv_at hl 1 rfl) ?_
  refine lv_iload hx hb dL_law_739 (lv_at hl 6 rfl) ?_
  refine lv_iconst (v := 1) hx hb dL_law_741 (by decide) ?_
  refine lv_iadd hx hb dL_law_742 ?_
  refine z_top (y := nI (i + 1)) (nI_add i 1) ?_
  refine va_sld hx hb hX hbl (Nat.not_le.mpr hbl) hS (vp_in_nI (n := i + 1) (by omega) (by omega)) dL_law_743 ?_
  refine z_top (y := xs (i + 1)) (by rw [nI_clamp (by omega)]) ?_
  obtain ⟨⟨fs0, e0⟩, fs9, e9⟩ := hhd _ _ hI
  refine zlV (ci := 10) (As := [.int (xs (i + 1))]) (rest := []) 0 hg.1.1.1.1.1 ⟨hx, hb, hml, hown, hts⟩ hM2 (cwV 1 hts gL_law_X6_isInWork rfl rfl rfl (by decide +kernel) ⟨Nat.le_of_ble_eq_true rfl, Nat.le_of_ble_eq_true rfl⟩) hG hK hP hD hS (fun _ h => h) rfl e9 rfl hl.1 rfl (Nat.le_of_ble_eq_true rfl) dL_law_744 ⟨hrc, hrs⟩ (fun m1 o2 H locs h2 hP hD hS => ?_)
  obtain ⟨bb, rfl, h2⟩ := h2
  obtain ⟨hth, hko, hI1⟩ := hpure w1 k m1 bb h1 h2
  refine lv_istore (lv' := [(7, .int bb), (6, .int k), (0, .ref b), (1, .ref x0), (2, .ref x9), (3, .ref ow), (4, .ref od), (5, .int (nI i))]) hx hb dL_law_747 hl (by decide) rfl (fun ls hl => ?_)
  refine lv_aload_n hx hb dL_law_749 rfl (lv_at hl 4 rfl) ?_
  obtain ⟨⟨fs1, e1⟩, fs2, e2⟩ := hhd _ _ hI1
  refine zlV (ci := 10) (As := []) (rest := []) 0 hg.1.1.1.1.1 ⟨hx, hb, hml, hown, hts⟩ hth (cwV 0 hts gL_law_X6_thrown rfl rfl rfl (by decide +kernel) ⟨Nat.le_of_ble_eq_true rfl, Nat.le_of_ble_eq_true rfl⟩) hG hK hP hD hS (fun _ h => h) rfl e2 rfl hl.1 rfl (Nat.le_of_ble_eq_true rfl) dL_law_750 ⟨hrc, hrs⟩ (fun m2 o3 H locs h3 hP hD hS => ?_)
  obtain ⟨em, rfl⟩ := h3
  rw [em] at hP hD
  have hP := va_P_swap hP
  have hD := va_D_swap hD
  refine lv_iload hx hb dL_law_753 (lv_at hl 1 rfl) ?_
  refine lv_icmp_eq (tgt := 760) hx hb dL_law_755 (by decide) (fun c9 => ?_) (fun c9 => ?_)
  · skip
    refine lv_iload hx hb dL_law_760 (lv_at hl 1 rfl) ?_
    refine lv_if_ne (tgt := 784) hx hb dL_law_762 (by decide) (fun c9 => ?_) (fun c9 => ?_)
    · skip
      refine lv_goto (tgt := 2834) hx hb dL_law_784 (by decide) ?_
      exact kn w1 m1 H locs ls hI1 hP hD hS (lv_sub hl [2, 3, 4, 5, 6, 7] rfl)
    · skip
      obtain ⟨f, h47, hf⟩ := hko c9
      refine lv_aload_n hx hb dL_law_765 rfl (lv_at hl 5 rfl) ?_
      refine lv_iconst (v := 0) hx hb dL_law_766 (by decide) ?_
      refine z_top (y := nI 0) rfl ?_
      refine va_lald hx hb hK hP 47 3 (z_inl h47) rfl (vp_in_nI (n := 0) (by decide) (by decide)) dL_law_767 ?_
      rw [show f (nI 0).toNatClampNeg = _ from hf]
      refine lv_iload hx hb dL_law_768 (lv_at hl 0 rfl) ?_
      refine lv_if_eq (tgt := 777) hx hb dL_law_770 (by decide) (fun c9 => ?_) (fun c9 => ?_)
      · skip
        refine lv_lconst (v := 0) hx hb dL_law_777 rfl ?_
        refine W.lcmp hx hb dL_law_778 ?_
        refine z_top (y := 0) (lg_cmp_rf (by rw [if_pos c9] <;> rfl)) ?_
        refine lv_if_eq (tgt := 784) hx hb dL_law_779 (by decide) (fun c9 => ?_) (fun c9 => ?_)
        · skip
          refine lv_goto (tgt := 2834) hx hb dL_law_784 (by decide) ?_
          exact kn w1 m1 H locs ls hI1 hP hD hS (lv_sub hl [2, 3, 4, 5, 6, 7] rfl)
        · exact absurd rfl c9
      · skip
        refine lv_lconst (v := 1) hx hb dL_law_773 rfl ?_
        refine lv_goto (tgt := 778) hx hb dL_law_774 (by decide) ?_
        refine W.lcmp hx hb dL_law_778 ?_
        refine z_top (y := 0) (lg_cmp_rf (by rw [if_neg c9] <;> rfl)) ?_
        refine lv_if_eq (tgt := 784) hx hb dL_law_779 (by decide) (fun c9 => ?_) (fun c9 => ?_)
        · skip
          refine lv_goto (tgt := 2834) hx hb dL_law_784 (by decide) ?_
          exact kn w1 m1 H locs ls hI1 hP hD hS (lv_sub hl [2, 3, 4, 5, 6, 7] rfl)
        · exact absurd rfl c9
  · exact absurd rfl c9

set_option maxHeartbeats 4000000 in
set_option maxRecDepth 100000 in
/-- isOnHold -/
theorem law_8 {G : zG} (hg : zGW G) {l : Launch} {D : va_G} {cy : Nat → ClassId} {I : va_W → va_W → Prop} {x0 x9 ow od b L : Nat} {xs : Nat → Int32} {p : Program} {e : Env} {s : State} {m : MethodId} {args : Array Value} {below : List Frame} {meth : Method} {c : Code} {H : Heap} {locs : List Loc} {cells slots : Nat} {Q : State → Prop} (hx : p.tables.exec = Jvm.exec) (hb : c.code = cL_law) (hml : c.maxLocals = 9) (hown : s.vm.findClass RL = some m.cls) (hts : ∀ w ∈ wsL_law, w.before args s = true) (hG : G (fun q => s.heap.size ≤ q) s) (hK : va_K D vwCl (zT cy) s) (hX : va_X b L xs s s.heap) (hbl : b < s.heap.size) {w mw : va_W} {i : Nat} (hi : i + 2 < L) (hL : L ≤ 1536) (hI : I w mw) (hhd : ∀ w m, I w m → zHd x0 x9 w m) (hP : va_P D vwCl (w ++ mw) H) (hD : va_D (fun q => s.heap.size ≤ q) (w ++ mw)) (hS : va_S (fun q => s.heap.size ≤ q) s.heap H locs) (ls : Array Slot) (hl : lv_has ls 9 [(0, .ref b), (1, .ref x0), (2, .ref x9), (3, .ref ow), (4, .ref od), (5, .int (nI i))]) (hrc : cells + 2 ≤ 603072) (hrs : slots + 96 ≤ 7202922) (harm : zArmS G D cy l I x9 yL_isOnHold wsL_isOnHold [.ref x0, .int (xs (i + 1)), .ref ow] yX6_isOnHold wsX6_isOnHold [.ref x9, .int (xs (i + 1))] (fun w' b => zOut ow cy w' (if b = 0 then 0 else 1)) w mw) (kn : ∀ (w' m' : va_W) (H1 : Heap) (locs1 : List Loc) (ls1 : Array Slot), I w' m' → va_P D vwCl (w' ++ m') H1 → va_D (fun q => s.heap.size ≤ q) (w' ++ m') → va_S (fun q => s.heap.size ≤ q) s.heap H1 locs1 → lv_has ls1 9 [(0, .ref b), (1, .ref x0), (2, .ref x9), (3, .ref ow), (4, .ref od), (5, .int (nI i))] → W p l e room_1 s m args below meth c H1 locs1 (cells + 2) (slots + 96) Q (F0 m 2834 ls1 [])) : W p l e room_1 s m args below meth c H locs cells slots Q (F0 m 787 ls []) := by
  refine lv_aload_n hx hb dL_law_787 rfl (lv_at hl 1 rfl) ?_
  refine lv_aload_n hx hb dL_law_788 rfl (lv_at hl 0 rfl) ?_
  refine lv_iload hx hb dL_law_789 (lv_at hl 5 rfl) ?_
  refine lv_iconst (v := 1) hx hb dL_law_791 (by decide) ?_
  refine lv_iadd hx hb dL_law_792 ?_
  refine z_top (y := nI (i + 1)) (nI_add i 1) ?_
  refine va_sld hx hb hX hbl (Nat.not_le.mpr hbl) hS (vp_in_nI (n := i + 1) (by omega) (by omega)) dL_law_793 ?_
  refine z_top (y := xs (i + 1)) (by rw [nI_clamp (by omega)]) ?_
  refine lv_aload_n hx hb dL_law_794 rfl (lv_at hl 3 rfl) ?_
  obtain ⟨Φ, Ψ, hM1, hM2, hpure⟩ := harm
  refine zlS (As := [.ref x0, .int (xs (i + 1)), .ref ow]) (rest := []) (hh := [(0, 16, 19, 13)]) hg.1.1.1.1.1 ⟨hx, hb, hml, hown, hts⟩ hM1 (vx_cwSW 3 hts gL_law_L_isOnHold rfl rfl rfl (by decide +kernel) ⟨Nat.le_of_ble_eq_true rfl, Nat.le_of_ble_eq_true rfl⟩) hG hK hP hD hS (fun _ h => h) rfl hl.1 rfl (Nat.le_of_ble_eq_true rfl) dL_law_795 ⟨hrc, hrs⟩ (fun w1 o1 H locs h1 hP hD hS => ?_)
  obtain ⟨k, rfl, h1⟩ := h1
  have hP := va_P_swap hP
  have hD := va_D_swap hD
  refine lv_istore (lv' := [(6, .int k), (0, .ref b), (1, .ref x0), (2, .ref x9), (3, .ref ow), (4, .ref od), (5, .int (nI i))]) hx hb dL_law_798 hl (by decide) rfl (fun ls hl => ?_)
  refine lv_aload_n hx hb dL_law_800 rfl (lv_at hl 3 rfl) ?_
  refine lv_aload_n hx hb dL_law_801 rfl (lv_at hl 1 rfl) ?_
  refine lv_iload hx hb dL_law_802 (lv_at hl 6 rfl) ?_
  refine lv_iconst (v := 1) hx hb dL_law_804 (by decide) ?_
  refine lv_iadd hx hb dL_law_805 ?_
  refine z_top (y := nI (i + 1)) (nI_add i 1) ?_
  refine va_sld hx hb hX hbl (Nat.not_le.mpr hbl) hS (vp_in_nI (n := i + 1) (by omega) (by omega)) dL_law_806 ?_
  refine z_top (y := xs (i + 1)) (by rw [nI_clamp (by omega)]) ?_
  obtain ⟨⟨fs0, e0⟩, fs9, e9⟩ := hhd _ _ hI
  refine zlV (ci := 10) (As := [.int (xs (i + 1))]) (rest := []) 0 hg.1.1.1.1.1 ⟨hx, hb, hml, hown, hts⟩ hM2 (cwV 1 hts gL_law_X6_isOnHold rfl rfl rfl (by decide +kernel) ⟨Nat.le_of_ble_eq_true rfl, Nat.le_of_ble_eq_true rfl⟩) hG hK hP hD hS (fun _ h => h) rfl e9 rfl hl.1 rfl (Nat.le_of_ble_eq_true rfl) dL_law_807 ⟨hrc, hrs⟩ (fun m1 o2 H locs h2 hP hD hS => ?_)
  obtain ⟨bb, rfl, h2⟩ := h2
  obtain ⟨hth, hko, hI1⟩ := hpure w1 k m1 bb h1 h2
  refine lv_istore (lv' := [(7, .int bb), (6, .int k), (0, .ref b), (1, .ref x0), (2, .ref x9), (3, .ref ow), (4, .ref od), (5, .int (nI i))]) hx hb dL_law_810 hl (by decide) rfl (fun ls hl => ?_)
  refine lv_aload_n hx hb dL_law_812 rfl (lv_at hl 4 rfl) ?_
  obtain ⟨⟨fs1, e1⟩, fs2, e2⟩ := hhd _ _ hI1
  refine zlV (ci := 10) (As := []) (rest := []) 0 hg.1.1.1.1.1 ⟨hx, hb, hml, hown, hts⟩ hth (cwV 0 hts gL_law_X6_thrown rfl rfl rfl (by decide +kernel) ⟨Nat.le_of_ble_eq_true rfl, Nat.le_of_ble_eq_true rfl⟩) hG hK hP hD hS (fun _ h => h) rfl e2 rfl hl.1 rfl (Nat.le_of_ble_eq_true rfl) dL_law_813 ⟨hrc, hrs⟩ (fun m2 o3 H locs h3 hP hD hS => ?_)
  obtain ⟨em, rfl⟩ := h3
  rw [em] at hP hD
  have hP := va_P_swap hP
  have hD := va_D_swap hD
  refine lv_iload hx hb dL_law_816 (lv_at hl 1 rfl) ?_
  refine lv_icmp_eq (tgt := 823) hx hb dL_law_818 (by decide) (fun c9 => ?_) (fun c9 => ?_)
  · skip
    refine lv_iload hx hb dL_law_823 (lv_at hl 1 rfl) ?_
    refine lv_if_ne (tgt := 847) hx hb dL_law_825 (by decide) (fun c9 => ?_) (fun c9 => ?_)
    · skip
      refine lv_goto (tgt := 2834) hx hb dL_law_847 (by decide) ?_
      exact kn w1 m1 H locs ls hI1 hP hD hS (lv_sub hl [2, 3, 4, 5, 6, 7] rfl)
    · skip
      obtain ⟨f, h47, hf⟩ := hko c9
      refine lv_aload_n hx hb dL_law_828 rfl (lv_at hl 5 rfl) ?_
      refine lv_iconst (v := 0) hx hb dL_law_829 (by decide) ?_
      refine z_top (y := nI 0) rfl ?_
      refine va_lald hx hb hK hP 47 3 (z_inl h47) rfl (vp_in_nI (n := 0) (by decide) (by decide)) dL_law_830 ?_
      rw [show f (nI 0).toNatClampNeg = _ from hf]
      refine lv_iload hx hb dL_law_831 (lv_at hl 0 rfl) ?_
      refine lv_if_eq (tgt := 840) hx hb dL_law_833 (by decide) (fun c9 => ?_) (fun c9 => ?_)
      · skip
        refine lv_lconst (v := 0) hx hb dL_law_840 rfl ?_
        refine W.lcmp hx hb dL_law_841 ?_
        refine z_top (y := 0) (lg_cmp_rf (by rw [if_pos c9] <;> rfl)) ?_
        refine lv_if_eq (tgt := 847) hx hb dL_law_842 (by decide) (fun c9 => ?_) (fun c9 => ?_)
        · skip
          refine lv_goto (tgt := 2834) hx hb dL_law_847 (by decide) ?_
          exact kn w1 m1 H locs ls hI1 hP hD hS (lv_sub hl [2, 3, 4, 5, 6, 7] rfl)
        · exact absurd rfl c9
      · skip
        refine lv_lconst (v := 1) hx hb dL_law_836 rfl ?_
        refine lv_goto (tgt := 841) hx hb dL_law_837 (by decide) ?_
        refine W.lcmp hx hb dL_law_841 ?_
        refine z_top (y := 0) (lg_cmp_rf (by rw [if_neg c9] <;> rfl)) ?_
        refine lv_if_eq (tgt := 847) hx hb dL_law_842 (by decide) (fun c9 => ?_) (fun c9 => ?_)
        · skip
          refine lv_goto (tgt := 2834) hx hb dL_law_847 (by decide) ?_
          exact kn w1 m1 H locs ls hI1 hP hD hS (lv_sub hl [2, 3, 4, 5, 6, 7] rfl)
        · exact absurd rfl c9
  · exact absurd rfl c9

set_option maxHeartbeats 4000000 in
set_option maxRecDepth 100000 in
/-- loopsOn -/
theorem law_9 {G : zG} (hg : zGW G) {l : Launch} {D : va_G} {cy : Nat → ClassId} {I : va_W → va_W → Prop} {x0 x9 ow od b L : Nat} {xs : Nat → Int32} {p : Program} {e : Env} {s : State} {m : MethodId} {args : Array Value} {below : List Frame} {meth : Method} {c : Code} {H : Heap} {locs : List Loc} {cells slots : Nat} {Q : State → Prop} (hx : p.tables.exec = Jvm.exec) (hb : c.code = cL_law) (hml : c.maxLocals = 9) (hown : s.vm.findClass RL = some m.cls) (hts : ∀ w ∈ wsL_law, w.before args s = true) (hG : G (fun q => s.heap.size ≤ q) s) (hK : va_K D vwCl (zT cy) s) (hX : va_X b L xs s s.heap) (hbl : b < s.heap.size) {w mw : va_W} {i : Nat} (hi : i + 2 < L) (hL : L ≤ 1536) (hI : I w mw) (hhd : ∀ w m, I w m → zHd x0 x9 w m) (hP : va_P D vwCl (w ++ mw) H) (hD : va_D (fun q => s.heap.size ≤ q) (w ++ mw)) (hS : va_S (fun q => s.heap.size ≤ q) s.heap H locs) (ls : Array Slot) (hl : lv_has ls 9 [(0, .ref b), (1, .ref x0), (2, .ref x9), (3, .ref ow), (4, .ref od), (5, .int (nI i))]) (hrc : cells + 2 ≤ 603072) (hrs : slots + 96 ≤ 7202922) (harm : zArmS G D cy l I x9 yL_loopsOn wsL_loopsOn [.ref x0, .int (xs (i + 1)), .ref ow] yX6_loopsOn wsX6_loopsOn [.ref x9, .int (xs (i + 1))] (fun w' b => zOut ow cy w' b.toInt64) w mw) (kn : ∀ (w' m' : va_W) (H1 : Heap) (locs1 : List Loc) (ls1 : Array Slot), I w' m' → va_P D vwCl (w' ++ m') H1 → va_D (fun q => s.heap.size ≤ q) (w' ++ m') → va_S (fun q => s.heap.size ≤ q) s.heap H1 locs1 → lv_has ls1 9 [(0, .ref b), (1, .ref x0), (2, .ref x9), (3, .ref ow), (4, .ref od), (5, .int (nI i))] → W p l e room_1 s m args below meth c H1 locs1 (cells + 2) (slots + 96) Q (F0 m 2834 ls1 [])) : W p l e room_1 s m args below meth c H locs cells slots Q (F0 m 850 ls []) := by
  refine lv_aload_n hx hb dL_law_850 rfl (lv_at hl 1 rfl) ?_
  refine lv_aload_n hx hb dL_law_851 rfl (lv_at hl 0 rfl) ?_
  refine lv_iload hx hb dL_law_852 (lv_at hl 5 rfl) ?_
  refine lv_iconst (v := 1) hx hb dL_law_854 (by decide) ?_
  refine lv_iadd hx hb dL_law_855 ?_
  refine z_top (y := nI (i + 1)) (nI_add i 1) ?_
  refine va_sld hx hb hX hbl (Nat.not_le.mpr hbl) hS (vp_in_nI (n := i + 1) (by omega) (by omega)) dL_law_856 ?_
  refine z_top (y := xs (i + 1)) (by rw [nI_clamp (by omega)]) ?_
  refine lv_aload_n hx hb dL_law_857 rfl (lv_at hl 3 rfl) ?_
  obtain ⟨Φ, Ψ, hM1, hM2, hpure⟩ := harm
  refine zlS (As := [.ref x0, .int (xs (i + 1)), .ref ow]) (rest := []) (hh := [(0, 9, 12, 13)]) hg.1.1.1.1.1 ⟨hx, hb, hml, hown, hts⟩ hM1 (vx_cwSW 3 hts gL_law_L_loopsOn rfl rfl rfl (by decide +kernel) ⟨Nat.le_of_ble_eq_true rfl, Nat.le_of_ble_eq_true rfl⟩) hG hK hP hD hS (fun _ h => h) rfl hl.1 rfl (Nat.le_of_ble_eq_true rfl) dL_law_858 ⟨hrc, hrs⟩ (fun w1 o1 H locs h1 hP hD hS => ?_)
  obtain ⟨k, rfl, h1⟩ := h1
  have hP := va_P_swap hP
  have hD := va_D_swap hD
  refine lv_istore (lv' := [(6, .int k), (0, .ref b), (1, .ref x0), (2, .ref x9), (3, .ref ow), (4, .ref od), (5, .int (nI i))]) hx hb dL_law_861 hl (by decide) rfl (fun ls hl => ?_)
  refine lv_aload_n hx hb dL_law_863 rfl (lv_at hl 3 rfl) ?_
  refine lv_aload_n hx hb dL_law_864 rfl (lv_at hl 1 rfl) ?_
  refine lv_iload hx hb dL_law_865 (lv_at hl 6 rfl) ?_
  refine lv_iconst (v := 1) hx hb dL_law_867 (by decide) ?_
  refine lv_iadd hx hb dL_law_868 ?_
  refine z_top (y := nI (i + 1)) (nI_add i 1) ?_
  refine va_sld hx hb hX hbl (Nat.not_le.mpr hbl) hS (vp_in_nI (n := i + 1) (by omega) (by omega)) dL_law_869 ?_
  refine z_top (y := xs (i + 1)) (by rw [nI_clamp (by omega)]) ?_
  obtain ⟨⟨fs0, e0⟩, fs9, e9⟩ := hhd _ _ hI
  refine zlV (ci := 10) (As := [.int (xs (i + 1))]) (rest := []) 0 hg.1.1.1.1.1 ⟨hx, hb, hml, hown, hts⟩ hM2 (cwV 1 hts gL_law_X6_loopsOn rfl rfl rfl (by decide +kernel) ⟨Nat.le_of_ble_eq_true rfl, Nat.le_of_ble_eq_true rfl⟩) hG hK hP hD hS (fun _ h => h) rfl e9 rfl hl.1 rfl (Nat.le_of_ble_eq_true rfl) dL_law_870 ⟨hrc, hrs⟩ (fun m1 o2 H locs h2 hP hD hS => ?_)
  obtain ⟨bb, rfl, h2⟩ := h2
  obtain ⟨hth, hko, hI1⟩ := hpure w1 k m1 bb h1 h2
  refine lv_istore (lv' := [(7, .int bb), (6, .int k), (0, .ref b), (1, .ref x0), (2, .ref x9), (3, .ref ow), (4, .ref od), (5, .int (nI i))]) hx hb dL_law_873 hl (by decide) rfl (fun ls hl => ?_)
  refine lv_aload_n hx hb dL_law_875 rfl (lv_at hl 4 rfl) ?_
  obtain ⟨⟨fs1, e1⟩, fs2, e2⟩ := hhd _ _ hI1
  refine zlV (ci := 10) (As := []) (rest := []) 0 hg.1.1.1.1.1 ⟨hx, hb, hml, hown, hts⟩ hth (cwV 0 hts gL_law_X6_thrown rfl rfl rfl (by decide +kernel) ⟨Nat.le_of_ble_eq_true rfl, Nat.le_of_ble_eq_true rfl⟩) hG hK hP hD hS (fun _ h => h) rfl e2 rfl hl.1 rfl (Nat.le_of_ble_eq_true rfl) dL_law_876 ⟨hrc, hrs⟩ (fun m2 o3 H locs h3 hP hD hS => ?_)
  obtain ⟨em, rfl⟩ := h3
  rw [em] at hP hD
  have hP := va_P_swap hP
  have hD := va_D_swap hD
  refine lv_iload hx hb dL_law_879 (lv_at hl 1 rfl) ?_
  refine lv_icmp_eq (tgt := 886) hx hb dL_law_881 (by decide) (fun c9 => ?_) (fun c9 => ?_)
  · skip
    refine lv_iload hx hb dL_law_886 (lv_at hl 1 rfl) ?_
    refine lv_if_ne (tgt := 903) hx hb dL_law_888 (by decide) (fun c9 => ?_) (fun c9 => ?_)
    · skip
      refine lv_goto (tgt := 2834) hx hb dL_law_903 (by decide) ?_
      exact kn w1 m1 H locs ls hI1 hP hD hS (lv_sub hl [2, 3, 4, 5, 6, 7] rfl)
    · skip
      obtain ⟨f, h47, hf⟩ := hko c9
      refine lv_aload_n hx hb dL_law_891 rfl (lv_at hl 5 rfl) ?_
      refine lv_iconst (v := 0) hx hb dL_law_892 (by decide) ?_
      refine z_top (y := nI 0) rfl ?_
      refine va_lald hx hb hK hP 47 3 (z_inl h47) rfl (vp_in_nI (n := 0) (by decide) (by decide)) dL_law_893 ?_
      rw [show f (nI 0).toNatClampNeg = _ from hf]
      refine lv_iload hx hb dL_law_894 (lv_at hl 0 rfl) ?_
      refine lv_i2l hx hb dL_law_896 rfl ?_
      refine W.lcmp hx hb dL_law_897 ?_
      refine z_top (y := 0) (lg_cmp_rf rfl) ?_
      refine lv_if_eq (tgt := 903) hx hb dL_law_898 (by decide) (fun c9 => ?_) (fun c9 => ?_)
      · skip
        refine lv_goto (tgt := 2834) hx hb dL_law_903 (by decide) ?_
        exact kn w1 m1 H locs ls hI1 hP hD hS (lv_sub hl [2, 3, 4, 5, 6, 7] rfl)
      · exact absurd rfl c9
  · exact absurd rfl c9

set_option maxHeartbeats 4000000 in
set_option maxRecDepth 100000 in
/-- ageOn -/
theorem law_10 {G : zG} (hg : zGW G) {l : Launch} {D : va_G} {cy : Nat → ClassId} {I : va_W → va_W → Prop} {x0 x9 ow od b L : Nat} {xs : Nat → Int32} {p : Program} {e : Env} {s : State} {m : MethodId} {args : Array Value} {below : List Frame} {meth : Method} {c : Code} {H : Heap} {locs : List Loc} {cells slots : Nat} {Q : State → Prop} (hx : p.tables.exec = Jvm.exec) (hb : c.code = cL_law) (hml : c.maxLocals = 9) (hown : s.vm.findClass RL = some m.cls) (hts : ∀ w ∈ wsL_law, w.before args s = true) (hG : G (fun q => s.heap.size ≤ q) s) (hK : va_K D vwCl (zT cy) s) (hX : va_X b L xs s s.heap) (hbl : b < s.heap.size) {w mw : va_W} {i : Nat} (hi : i + 2 < L) (hL : L ≤ 1536) (hI : I w mw) (hhd : ∀ w m, I w m → zHd x0 x9 w m) (hP : va_P D vwCl (w ++ mw) H) (hD : va_D (fun q => s.heap.size ≤ q) (w ++ mw)) (hS : va_S (fun q => s.heap.size ≤ q) s.heap H locs) (ls : Array Slot) (hl : lv_has ls 9 [(0, .ref b), (1, .ref x0), (2, .ref x9), (3, .ref ow), (4, .ref od), (5, .int (nI i))]) (hrc : cells + 2 ≤ 603072) (hrs : slots + 96 ≤ 7202922) (harm : zArmS G D cy l I x9 yL_ageOn wsL_ageOn [.ref x0, .int (xs (i + 1)), .ref ow] yX6_ageOn wsX6_ageOn [.ref x9, .int (xs (i + 1))] (fun w' b => zOut ow cy w' b.toInt64) w mw) (kn : ∀ (w' m' : va_W) (H1 : Heap) (locs1 : List Loc) (ls1 : Array Slot), I w' m' → va_P D vwCl (w' ++ m') H1 → va_D (fun q => s.heap.size ≤ q) (w' ++ m') → va_S (fun q => s.heap.size ≤ q) s.heap H1 locs1 → lv_has ls1 9 [(0, .ref b), (1, .ref x0), (2, .ref x9), (3, .ref ow), (4, .ref od), (5, .int (nI i))] → W p l e room_1 s m args below meth c H1 locs1 (cells + 2) (slots + 96) Q (F0 m 2834 ls1 [])) : W p l e room_1 s m args below meth c H locs cells slots Q (F0 m 906 ls []) := by
  refine lv_aload_n hx hb dL_law_906 rfl (lv_at hl 1 rfl) ?_
  refine lv_aload_n hx hb dL_law_907 rfl (lv_at hl 0 rfl) ?_
  refine lv_iload hx hb dL_law_908 (lv_at hl 5 rfl) ?_
  refine lv_iconst (v := 1) hx hb dL_law_910 (by decide) ?_
  refine lv_iadd hx hb dL_law_911 ?_
  refine z_top (y := nI (i + 1)) (nI_add i 1) ?_
  refine va_sld hx hb hX hbl (Nat.not_le.mpr hbl) hS (vp_in_nI (n := i + 1) (by omega) (by omega)) dL_law_912 ?_
  refine z_top (y := xs (i + 1)) (by rw [nI_clamp (by omega)]) ?_
  refine lv_aload_n hx hb dL_law_913 rfl (lv_at hl 3 rfl) ?_
  obtain ⟨Φ, Ψ, hM1, hM2, hpure⟩ := harm
  refine zlS (As := [.ref x0, .int (xs (i + 1)), .ref ow]) (rest := []) (hh := [(0, 9, 12, 13), (0, 9, 15, 53)]) hg.1.1.1.1.1 ⟨hx, hb, hml, hown, hts⟩ hM1 (vx_cwSW 3 hts gL_law_L_ageOn rfl rfl rfl (by decide +kernel) ⟨Nat.le_of_ble_eq_true rfl, Nat.le_of_ble_eq_true rfl⟩) hG hK hP hD hS (fun _ h => h) rfl hl.1 rfl (Nat.le_of_ble_eq_true rfl) dL_law_914 ⟨hrc, hrs⟩ (fun w1 o1 H locs h1 hP hD hS => ?_)
  obtain ⟨k, rfl, h1⟩ := h1
  have hP := va_P_swap hP
  have hD := va_D_swap hD
  refine lv_istore (lv' := [(6, .int k), (0, .ref b), (1, .ref x0), (2, .ref x9), (3, .ref ow), (4, .ref od), (5, .int (nI i))]) hx hb dL_law_917 hl (by decide) rfl (fun ls hl => ?_)
  refine lv_aload_n hx hb dL_law_919 rfl (lv_at hl 3 rfl) ?_
  refine lv_aload_n hx hb dL_law_920 rfl (lv_at hl 1 rfl) ?_
  refine lv_iload hx hb dL_law_921 (lv_at hl 6 rfl) ?_
  refine lv_iconst (v := 1) hx hb dL_law_923 (by decide) ?_
  refine lv_iadd hx hb dL_law_924 ?_
  refine z_top (y := nI (i + 1)) (nI_add i 1) ?_
  refine va_sld hx hb hX hbl (Nat.not_le.mpr hbl) hS (vp_in_nI (n := i + 1) (by omega) (by omega)) dL_law_925 ?_
  refine z_top (y := xs (i + 1)) (by rw [nI_clamp (by omega)]) ?_
  obtain ⟨⟨fs0, e0⟩, fs9, e9⟩ := hhd _ _ hI
  refine zlV (ci := 10) (As := [.int (xs (i + 1))]) (rest := []) 0 hg.1.1.1.1.1 ⟨hx, hb, hml, hown, hts⟩ hM2 (cwV 1 hts gL_law_X6_ageOn rfl rfl rfl (by decide +kernel) ⟨Nat.le_of_ble_eq_true rfl, Nat.le_of_ble_eq_true rfl⟩) hG hK hP hD hS (fun _ h => h) rfl e9 rfl hl.1 rfl (Nat.le_of_ble_eq_true rfl) dL_law_926 ⟨hrc, hrs⟩ (fun m1 o2 H locs h2 hP hD hS => ?_)
  obtain ⟨bb, rfl, h2⟩ := h2
  obtain ⟨hth, hko, hI1⟩ := hpure w1 k m1 bb h1 h2
  refine lv_istore (lv' := [(7, .int bb), (6, .int k), (0, .ref b), (1, .ref x0), (2, .ref x9), (3, .ref ow), (4, .ref od), (5, .int (nI i))]) hx hb dL_law_929 hl (by decide) rfl (fun ls hl => ?_)
  refine lv_aload_n hx hb dL_law_931 rfl (lv_at hl 4 rfl) ?_
  obtain ⟨⟨fs1, e1⟩, fs2, e2⟩ := hhd _ _ hI1
  refine zlV (ci := 10) (As := []) (rest := []) 0 hg.1.1.1.1.1 ⟨hx, hb, hml, hown, hts⟩ hth (cwV 0 hts gL_law_X6_thrown rfl rfl rfl (by decide +kernel) ⟨Nat.le_of_ble_eq_true rfl, Nat.le_of_ble_eq_true rfl⟩) hG hK hP hD hS (fun _ h => h) rfl e2 rfl hl.1 rfl (Nat.le_of_ble_eq_true rfl) dL_law_932 ⟨hrc, hrs⟩ (fun m2 o3 H locs h3 hP hD hS => ?_)
  obtain ⟨em, rfl⟩ := h3
  rw [em] at hP hD
  have hP := va_P_swap hP
  have hD := va_D_swap hD
  refine lv_iload hx hb dL_law_935 (lv_at hl 1 rfl) ?_
  refine lv_icmp_eq (tgt := 942) hx hb dL_law_937 (by decide) (fun c9 => ?_) (fun c9 => ?_)
  · skip
    refine lv_iload hx hb dL_law_942 (lv_at hl 1 rfl) ?_
    refine lv_if_ne (tgt := 959) hx hb dL_law_944 (by decide) (fun c9 => ?_) (fun c9 => ?_)
    · skip
      refine lv_goto (tgt := 2834) hx hb dL_law_959 (by decide) ?_
      exact kn w1 m1 H locs ls hI1 hP hD hS (lv_sub hl [2, 3, 4, 5, 6, 7] rfl)
    · skip
      obtain ⟨f, h47, hf⟩ := hko c9
      refine lv_aload_n hx hb dL_law_947 rfl (lv_at hl 5 rfl) ?_
      refine lv_iconst (v := 0) hx hb dL_law_948 (by decide) ?_
      refine z_top (y := nI 0) rfl ?_
      refine va_lald hx hb hK hP 47 3 (z_inl h47) rfl (vp_in_nI (n := 0) (by decide) (by decide)) dL_law_949 ?_
      rw [show f (nI 0).toNatClampNeg = _ from hf]
      refine lv_iload hx hb dL_law_950 (lv_at hl 0 rfl) ?_
      refine lv_i2l hx hb dL_law_952 rfl ?_
      refine W.lcmp hx hb dL_law_953 ?_
      refine z_top (y := 0) (lg_cmp_rf rfl) ?_
      refine lv_if_eq (tgt := 959) hx hb dL_law_954 (by decide) (fun c9 => ?_) (fun c9 => ?_)
      · skip
        refine lv_goto (tgt := 2834) hx hb dL_law_959 (by decide) ?_
        exact kn w1 m1 H locs ls hI1 hP hD hS (lv_sub hl [2, 3, 4, 5, 6, 7] rfl)
      · exact absurd rfl c9
  · exact absurd rfl c9

set_option maxHeartbeats 4000000 in
set_option maxRecDepth 100000 in
/-- needlesInWork -/
theorem law_11 {G : zG} (hg : zGW G) {l : Launch} {D : va_G} {cy : Nat → ClassId} {I : va_W → va_W → Prop} {x0 x9 ow od b L : Nat} {xs : Nat → Int32} {p : Program} {e : Env} {s : State} {m : MethodId} {args : Array Value} {below : List Frame} {meth : Method} {c : Code} {H : Heap} {locs : List Loc} {cells slots : Nat} {Q : State → Prop} (hx : p.tables.exec = Jvm.exec) (hb : c.code = cL_law) (hml : c.maxLocals = 9) (hown : s.vm.findClass RL = some m.cls) (hts : ∀ w ∈ wsL_law, w.before args s = true) (hG : G (fun q => s.heap.size ≤ q) s) (hK : va_K D vwCl (zT cy) s) (hX : va_X b L xs s s.heap) (hbl : b < s.heap.size) {w mw : va_W} {i : Nat} (hi : i + 2 < L) (hL : L ≤ 1536) (hI : I w mw) (hhd : ∀ w m, I w m → zHd x0 x9 w m) (hP : va_P D vwCl (w ++ mw) H) (hD : va_D (fun q => s.heap.size ≤ q) (w ++ mw)) (hS : va_S (fun q => s.heap.size ≤ q) s.heap H locs) (ls : Array Slot) (hl : lv_has ls 9 [(0, .ref b), (1, .ref x0), (2, .ref x9), (3, .ref ow), (4, .ref od), (5, .int (nI i))]) (hrc : cells + 2 ≤ 603072) (hrs : slots + 96 ≤ 7202922) (harm : zArmD G D cy l I yX5_needlesInWork wsX5_needlesInWork [.ref x0] yX6_needlesInWork wsX6_needlesInWork [.ref x9] w mw) (kn : ∀ (w' m' : va_W) (H1 : Heap) (locs1 : List Loc) (ls1 : Array Slot), I w' m' → va_P D vwCl (w' ++ m') H1 → va_D (fun q => s.heap.size ≤ q) (w' ++ m') → va_S (fun q => s.heap.size ≤ q) s.heap H1 locs1 → lv_has ls1 9 [(0, .ref b), (1, .ref x0), (2, .ref x9), (3, .ref ow), (4, .ref od), (5, .int (nI i))] → W p l e room_1 s m args below meth c H1 locs1 (cells + 2) (slots + 96) Q (F0 m 2834 ls1 [])) : W p l e room_1 s m args below meth c H locs cells slots Q (F0 m 962 ls []) := by
  refine lv_aload_n hx hb dL_law_962 rfl (lv_at hl 1 rfl) ?_
  obtain ⟨Φ, Ψ, hM1, hM2, hpure⟩ := harm
  obtain ⟨⟨fs0, e0⟩, fs9, e9⟩ := hhd _ _ hI
  refine zlV (ci := 9) (As := []) (rest := []) 0 hg.1.1.1.1.1 ⟨hx, hb, hml, hown, hts⟩ hM1 (cwV 0 hts gL_law_X5_needlesInWork rfl rfl rfl (by decide +kernel) ⟨Nat.le_of_ble_eq_true rfl, Nat.le_of_ble_eq_true rfl⟩) hG hK hP hD hS (fun _ h => h) rfl e0 rfl hl.1 rfl (Nat.le_of_ble_eq_true rfl) dL_law_963 ⟨hrc, hrs⟩ (fun w1 o1 H locs h1 hP hD hS => ?_)
  obtain ⟨k, rfl, h1⟩ := h1
  have hP := va_P_swap hP
  have hD := va_D_swap hD
  refine lv_aload_n hx hb dL_law_966 rfl (lv_at hl 2 rfl) ?_
  refine zlV (ci := 10) (As := []) (rest := [.int k]) 0 hg.1.1.1.1.1 ⟨hx, hb, hml, hown, hts⟩ hM2 (cwV 0 hts gL_law_X6_needlesInWork rfl rfl rfl (by decide +kernel) ⟨Nat.le_of_ble_eq_true rfl, Nat.le_of_ble_eq_true rfl⟩) hG hK hP hD hS (fun _ h => h) rfl e9 rfl hl.1 rfl (Nat.le_of_ble_eq_true rfl) dL_law_967 ⟨hrc, hrs⟩ (fun m1 o2 H locs h2 hP hD hS => ?_)
  obtain ⟨bb, rfl, h2⟩ := h2
  obtain ⟨hkb, hI1⟩ := hpure w1 k m1 bb h1 h2
  have hP := va_P_swap hP
  have hD := va_D_swap hD
  refine lv_icmp_eq (tgt := 2834) hx hb dL_law_970 (by decide) (fun c9 => ?_) (fun c9 => ?_)
  · skip
    exact kn w1 m1 H locs ls hI1 hP hD hS (lv_sub hl [0, 1, 2, 3, 4, 5] rfl)
  · exact absurd hkb c9

set_option maxHeartbeats 4000000 in
set_option maxRecDepth 100000 in
/-- needlesOnHold -/
theorem law_12 {G : zG} (hg : zGW G) {l : Launch} {D : va_G} {cy : Nat → ClassId} {I : va_W → va_W → Prop} {x0 x9 ow od b L : Nat} {xs : Nat → Int32} {p : Program} {e : Env} {s : State} {m : MethodId} {args : Array Value} {below : List Frame} {meth : Method} {c : Code} {H : Heap} {locs : List Loc} {cells slots : Nat} {Q : State → Prop} (hx : p.tables.exec = Jvm.exec) (hb : c.code = cL_law) (hml : c.maxLocals = 9) (hown : s.vm.findClass RL = some m.cls) (hts : ∀ w ∈ wsL_law, w.before args s = true) (hG : G (fun q => s.heap.size ≤ q) s) (hK : va_K D vwCl (zT cy) s) (hX : va_X b L xs s s.heap) (hbl : b < s.heap.size) {w mw : va_W} {i : Nat} (hi : i + 2 < L) (hL : L ≤ 1536) (hI : I w mw) (hhd : ∀ w m, I w m → zHd x0 x9 w m) (hP : va_P D vwCl (w ++ mw) H) (hD : va_D (fun q => s.heap.size ≤ q) (w ++ mw)) (hS : va_S (fun q => s.heap.size ≤ q) s.heap H locs) (ls : Array Slot) (hl : lv_has ls 9 [(0, .ref b), (1, .ref x0), (2, .ref x9), (3, .ref ow), (4, .ref od), (5, .int (nI i))]) (hrc : cells + 2 ≤ 603072) (hrs : slots + 96 ≤ 7202922) (harm : zArmD G D cy l I yX5_needlesOnHold wsX5_needlesOnHold [.ref x0] yX6_needlesOnHold wsX6_needlesOnHold [.ref x9] w mw) (kn : ∀ (w' m' : va_W) (H1 : Heap) (locs1 : List Loc) (ls1 : Array Slot), I w' m' → va_P D vwCl (w' ++ m') H1 → va_D (fun q => s.heap.size ≤ q) (w' ++ m') → va_S (fun q => s.heap.size ≤ q) s.heap H1 locs1 → lv_has ls1 9 [(0, .ref b), (1, .ref x0), (2, .ref x9), (3, .ref ow), (4, .ref od), (5, .int (nI i))] → W p l e room_1 s m args below meth c H1 locs1 (cells + 2) (slots + 96) Q (F0 m 2834 ls1 [])) : W p l e room_1 s m args below meth c H locs cells slots Q (F0 m 975 ls []) := by
  refine lv_aload_n hx hb dL_law_975 rfl (lv_at hl 1 rfl) ?_
  obtain ⟨Φ, Ψ, hM1, hM2, hpure⟩ := harm
  obtain ⟨⟨fs0, e0⟩, fs9, e9⟩ := hhd _ _ hI
  refine zlV (ci := 9) (As := []) (rest := []) 0 hg.1.1.1.1.1 ⟨hx, hb, hml, hown, hts⟩ hM1 (cwV 0 hts gL_law_X5_needlesOnHold rfl rfl rfl (by decide +kernel) ⟨Nat.le_of_ble_eq_true rfl, Nat.le_of_ble_eq_true rfl⟩) hG hK hP hD hS (fun _ h => h) rfl e0 rfl hl.1 rfl (Nat.le_of_ble_eq_true rfl) dL_law_976 ⟨hrc, hrs⟩ (fun w1 o1 H locs h1 hP hD hS => ?_)
  obtain ⟨k, rfl, h1⟩ := h1
  have hP := va_P_swap hP
  have hD := va_D_swap hD
  refine lv_aload_n hx hb dL_law_979 rfl (lv_at hl 2 rfl) ?_
  refine zlV (ci := 10) (As := []) (rest := [.int k]) 0 hg.1.1.1.1.1 ⟨hx, hb, hml, hown, hts⟩ hM2 (cwV 0 hts gL_law_X6_needlesOnHold rfl rfl rfl (by decide +kernel) ⟨Nat.le_of_ble_eq_true rfl, Nat.le_of_ble_eq_true rfl⟩) hG hK hP hD hS (fun _ h => h) rfl e9 rfl hl.1 rfl (Nat.le_of_ble_eq_true rfl) dL_law_980 ⟨hrc, hrs⟩ (fun m1 o2 H locs h2 hP hD hS => ?_)
  obtain ⟨bb, rfl, h2⟩ := h2
  obtain ⟨hkb, hI1⟩ := hpure w1 k m1 bb h1 h2
  have hP := va_P_swap hP
  have hD := va_D_swap hD
  refine lv_icmp_eq (tgt := 2834) hx hb dL_law_983 (by decide) (fun c9 => ?_) (fun c9 => ?_)
  · skip
    exact kn w1 m1 H locs ls hI1 hP hD hS (lv_sub hl [0, 1, 2, 3, 4, 5] rfl)
  · exact absurd hkb c9

set_option maxHeartbeats 4000000 in
set_option maxRecDepth 100000 in
/-- loopCount -/
theorem law_13 {G : zG} (hg : zGW G) {l : Launch} {D : va_G} {cy : Nat → ClassId} {I : va_W → va_W → Prop} {x0 x9 ow od b L : Nat} {xs : Nat → Int32} {p : Program} {e : Env} {s : State} {m : MethodId} {args : Array Value} {below : List Frame} {meth : Method} {c : Code} {H : Heap} {locs : List Loc} {cells slots : Nat} {Q : State → Prop} (hx : p.tables.exec = Jvm.exec) (hb : c.code = cL_law) (hml : c.maxLocals = 9) (hown : s.vm.findClass RL = some m.cls) (hts : ∀ w ∈ wsL_law, w.before args s = true) (hG : G (fun q => s.heap.size ≤ q) s) (hK : va_K D vwCl (zT cy) s) (hX : va_X b L xs s s.heap) (hbl : b < s.heap.size) {w mw : va_W} {i : Nat} (hi : i + 2 < L) (hL : L ≤ 1536) (hI : I w mw) (hhd : ∀ w m, I w m → zHd x0 x9 w m) (hP : va_P D vwCl (w ++ mw) H) (hD : va_D (fun q => s.heap.size ≤ q) (w ++ mw)) (hS : va_S (fun q => s.heap.size ≤ q) s.heap H locs) (ls : Array Slot) (hl : lv_has ls 9 [(0, .ref b), (1, .ref x0), (2, .ref x9), (3, .ref ow), (4, .ref od), (5, .int (nI i))]) (hrc : cells + 2 ≤ 603072) (hrs : slots + 96 ≤ 7202922) (harm : zArmD G D cy l I yX5_loopCount wsX5_loopCount [.ref x0] yX6_loopCount wsX6_loopCount [.ref x9] w mw) (kn : ∀ (w' m' : va_W) (H1 : Heap) (locs1 : List Loc) (ls1 : Array Slot), I w' m' → va_P D vwCl (w' ++ m') H1 → va_D (fun q => s.heap.size ≤ q) (w' ++ m') → va_S (fun q => s.heap.size ≤ q) s.heap H1 locs1 → lv_has ls1 9 [(0, .ref b), (1, .ref x0), (2, .ref x9), (3, .ref ow), (4, .ref od), (5, .int (nI i))] → W p l e room_1 s m args below meth c H1 locs1 (cells + 2) (slots + 96) Q (F0 m 2834 ls1 [])) : W p l e room_1 s m args below meth c H locs cells slots Q (F0 m 988 ls []) := by
  refine lv_aload_n hx hb dL_law_988 rfl (lv_at hl 1 rfl) ?_
  obtain ⟨Φ, Ψ, hM1, hM2, hpure⟩ := harm
  obtain ⟨⟨fs0, e0⟩, fs9, e9⟩ := hhd _ _ hI
  refine zlV (ci := 9) (As := []) (rest := []) 0 hg.1.1.1.1.1 ⟨hx, hb, hml, hown, hts⟩ hM1 (cwV 0 hts gL_law_X5_loopCount rfl rfl rfl (by decide +kernel) ⟨Nat.le_of_ble_eq_true rfl, Nat.le_of_ble_eq_true rfl⟩) hG hK hP hD hS (fun _ h => h) rfl e0 rfl hl.1 rfl (Nat.le_of_ble_eq_true rfl) dL_law_989 ⟨hrc, hrs⟩ (fun w1 o1 H locs h1 hP hD hS => ?_)
  obtain ⟨k, rfl, h1⟩ := h1
  have hP := va_P_swap hP
  have hD := va_D_swap hD
  refine lv_aload_n hx hb dL_law_992 rfl (lv_at hl 2 rfl) ?_
  refine zlV (ci := 10) (As := []) (rest := [.int k]) 0 hg.1.1.1.1.1 ⟨hx, hb, hml, hown, hts⟩ hM2 (cwV 0 hts gL_law_X6_loopCount rfl rfl rfl (by decide +kernel) ⟨Nat.le_of_ble_eq_true rfl, Nat.le_of_ble_eq_true rfl⟩) hG hK hP hD hS (fun _ h => h) rfl e9 rfl hl.1 rfl (Nat.le_of_ble_eq_true rfl) dL_law_993 ⟨hrc, hrs⟩ (fun m1 o2 H locs h2 hP hD hS => ?_)
  obtain ⟨bb, rfl, h2⟩ := h2
  obtain ⟨hkb, hI1⟩ := hpure w1 k m1 bb h1 h2
  have hP := va_P_swap hP
  have hD := va_D_swap hD
  refine lv_icmp_eq (tgt := 2834) hx hb dL_law_996 (by decide) (fun c9 => ?_) (fun c9 => ?_)
  · skip
    exact kn w1 m1 H locs ls hI1 hP hD hS (lv_sub hl [0, 1, 2, 3, 4, 5] rfl)
  · exact absurd hkb c9

set_option maxHeartbeats 4000000 in
set_option maxRecDepth 100000 in
/-- longestRun -/
theorem law_14 {G : zG} (hg : zGW G) {l : Launch} {D : va_G} {cy : Nat → ClassId} {I : va_W → va_W → Prop} {x0 x9 ow od b L : Nat} {xs : Nat → Int32} {p : Program} {e : Env} {s : State} {m : MethodId} {args : Array Value} {below : List Frame} {meth : Method} {c : Code} {H : Heap} {locs : List Loc} {cells slots : Nat} {Q : State → Prop} (hx : p.tables.exec = Jvm.exec) (hb : c.code = cL_law) (hml : c.maxLocals = 9) (hown : s.vm.findClass RL = some m.cls) (hts : ∀ w ∈ wsL_law, w.before args s = true) (hG : G (fun q => s.heap.size ≤ q) s) (hK : va_K D vwCl (zT cy) s) (hX : va_X b L xs s s.heap) (hbl : b < s.heap.size) {w mw : va_W} {i : Nat} (hi : i + 2 < L) (hL : L ≤ 1536) (hI : I w mw) (hhd : ∀ w m, I w m → zHd x0 x9 w m) (hP : va_P D vwCl (w ++ mw) H) (hD : va_D (fun q => s.heap.size ≤ q) (w ++ mw)) (hS : va_S (fun q => s.heap.size ≤ q) s.heap H locs) (ls : Array Slot) (hl : lv_has ls 9 [(0, .ref b), (1, .ref x0), (2, .ref x9), (3, .ref ow), (4, .ref od), (5, .int (nI i))]) (hrc : cells + 2 ≤ 603072) (hrs : slots + 96 ≤ 7202922) (harm : zArmD G D cy l I yX5_longestRun wsX5_longestRun [.ref x0] yX6_longestRun wsX6_longestRun [.ref x9] w mw) (kn : ∀ (w' m' : va_W) (H1 : Heap) (locs1 : List Loc) (ls1 : Array Slot), I w' m' → va_P D vwCl (w' ++ m') H1 → va_D (fun q => s.heap.size ≤ q) (w' ++ m') → va_S (fun q => s.heap.size ≤ q) s.heap H1 locs1 → lv_has ls1 9 [(0, .ref b), (1, .ref x0), (2, .ref x9), (3, .ref ow), (4, .ref od), (5, .int (nI i))] → W p l e room_1 s m args below meth c H1 locs1 (cells + 2) (slots + 96) Q (F0 m 2834 ls1 [])) : W p l e room_1 s m args below meth c H locs cells slots Q (F0 m 1001 ls []) := by
  refine lv_aload_n hx hb dL_law_1001 rfl (lv_at hl 1 rfl) ?_
  obtain ⟨Φ, Ψ, hM1, hM2, hpure⟩ := harm
  obtain ⟨⟨fs0, e0⟩, fs9, e9⟩ := hhd _ _ hI
  refine zlV (ci := 9) (As := []) (rest := []) 0 hg.1.1.1.1.1 ⟨hx, hb, hml, hown, hts⟩ hM1 (cwV 0 hts gL_law_X5_longestRun rfl rfl rfl (by decide +kernel) ⟨Nat.le_of_ble_eq_true rfl, Nat.le_of_ble_eq_true rfl⟩) hG hK hP hD hS (fun _ h => h) rfl e0 rfl hl.1 rfl (Nat.le_of_ble_eq_true rfl) dL_law_1002 ⟨hrc, hrs⟩ (fun w1 o1 H locs h1 hP hD hS => ?_)
  obtain ⟨k, rfl, h1⟩ := h1
  have hP := va_P_swap hP
  have hD := va_D_swap hD
  refine lv_aload_n hx hb dL_law_1005 rfl (lv_at hl 2 rfl) ?_
  refine zlV (ci := 10) (As := []) (rest := [.int k]) 0 hg.1.1.1.1.1 ⟨hx, hb, hml, hown, hts⟩ hM2 (cwV 0 hts gL_law_X6_longestRun rfl rfl rfl (by decide +kernel) ⟨Nat.le_of_ble_eq_true rfl, Nat.le_of_ble_eq_true rfl⟩) hG hK hP hD hS (fun _ h => h) rfl e9 rfl hl.1 rfl (Nat.le_of_ble_eq_true rfl) dL_law_1006 ⟨hrc, hrs⟩ (fun m1 o2 H locs h2 hP hD hS => ?_)
  obtain ⟨bb, rfl, h2⟩ := h2
  obtain ⟨hkb, hI1⟩ := hpure w1 k m1 bb h1 h2
  have hP := va_P_swap hP
  have hD := va_D_swap hD
  refine lv_icmp_eq (tgt := 2834) hx hb dL_law_1009 (by decide) (fun c9 => ?_) (fun c9 => ?_)
  · skip
    exact kn w1 m1 H locs ls hI1 hP hD hS (lv_sub hl [0, 1, 2, 3, 4, 5] rfl)
  · exact absurd hkb c9

set_option maxHeartbeats 4000000 in
set_option maxRecDepth 100000 in
/-- longestRunByMask -/
theorem law_15 {G : zG} (hg : zGW G) {l : Launch} {D : va_G} {cy : Nat → ClassId} {I : va_W → va_W → Prop} {x0 x9 ow od b L : Nat} {xs : Nat → Int32} {p : Program} {e : Env} {s : State} {m : MethodId} {args : Array Value} {below : List Frame} {meth : Method} {c : Code} {H : Heap} {locs : List Loc} {cells slots : Nat} {Q : State → Prop} (hx : p.tables.exec = Jvm.exec) (hb : c.code = cL_law) (hml : c.maxLocals = 9) (hown : s.vm.findClass RL = some m.cls) (hts : ∀ w ∈ wsL_law, w.before args s = true) (hG : G (fun q => s.heap.size ≤ q) s) (hK : va_K D vwCl (zT cy) s) (hX : va_X b L xs s s.heap) (hbl : b < s.heap.size) {w mw : va_W} {i : Nat} (hi : i + 2 < L) (hL : L ≤ 1536) (hI : I w mw) (hhd : ∀ w m, I w m → zHd x0 x9 w m) (hP : va_P D vwCl (w ++ mw) H) (hD : va_D (fun q => s.heap.size ≤ q) (w ++ mw)) (hS : va_S (fun q => s.heap.size ≤ q) s.heap H locs) (ls : Array Slot) (hl : lv_has ls 9 [(0, .ref b), (1, .ref x0), (2, .ref x9), (3, .ref ow), (4, .ref od), (5, .int (nI i))]) (hrc : cells + 2 ≤ 603072) (hrs : slots + 96 ≤ 7202922) (harm : zArmD G D cy l I yX5_longestRunByMask wsX5_longestRunByMask [.ref x0] yX6_longestRunByMask wsX6_longestRunByMask [.ref x9] w mw) (kn : ∀ (w' m' : va_W) (H1 : Heap) (locs1 : List Loc) (ls1 : Array Slot), I w' m' → va_P D vwCl (w' ++ m') H1 → va_D (fun q => s.heap.size ≤ q) (w' ++ m') → va_S (fun q => s.heap.size ≤ q) s.heap H1 locs1 → lv_has ls1 9 [(0, .ref b), (1, .ref x0), (2, .ref x9), (3, .ref ow), (4, .ref od), (5, .int (nI i))] → W p l e room_1 s m args below meth c H1 locs1 (cells + 2) (slots + 96) Q (F0 m 2834 ls1 [])) : W p l e room_1 s m args below meth c H locs cells slots Q (F0 m 1014 ls []) := by
  refine lv_aload_n hx hb dL_law_1014 rfl (lv_at hl 1 rfl) ?_
  obtain ⟨Φ, Ψ, hM1, hM2, hpure⟩ := harm
  obtain ⟨⟨fs0, e0⟩, fs9, e9⟩ := hhd _ _ hI
  refine zlV (ci := 9) (As := []) (rest := []) 0 hg.1.1.1.1.1 ⟨hx, hb, hml, hown, hts⟩ hM1 (cwV 0 hts gL_law_X5_longestRunByMask rfl rfl rfl (by decide +kernel) ⟨Nat.le_of_ble_eq_true rfl, Nat.le_of_ble_eq_true rfl⟩) hG hK hP hD hS (fun _ h => h) rfl e0 rfl hl.1 rfl (Nat.le_of_ble_eq_true rfl) dL_law_1015 ⟨hrc, hrs⟩ (fun w1 o1 H locs h1 hP hD hS => ?_)
  obtain ⟨k, rfl, h1⟩ := h1
  have hP := va_P_swap hP
  have hD := va_D_swap hD
  refine lv_aload_n hx hb dL_law_1018 rfl (lv_at hl 2 rfl) ?_
  refine zlV (ci := 10) (As := []) (rest := [.int k]) 0 hg.1.1.1.1.1 ⟨hx, hb, hml, hown, hts⟩ hM2 (cwV 0 hts gL_law_X6_longestRunByMask rfl rfl rfl (by decide +kernel) ⟨Nat.le_of_ble_eq_true rfl, Nat.le_of_ble_eq_true rfl⟩) hG hK hP hD hS (fun _ h => h) rfl e9 rfl hl.1 rfl (Nat.le_of_ble_eq_true rfl) dL_law_1019 ⟨hrc, hrs⟩ (fun m1 o2 H locs h2 hP hD hS => ?_)
  obtain ⟨bb, rfl, h2⟩ := h2
  obtain ⟨hkb, hI1⟩ := hpure w1 k m1 bb h1 h2
  have hP := va_P_swap hP
  have hD := va_D_swap hD
  refine lv_icmp_eq (tgt := 2834) hx hb dL_law_1022 (by decide) (fun c9 => ?_) (fun c9 => ?_)
  · skip
    exact kn w1 m1 H locs ls hI1 hP hD hS (lv_sub hl [0, 1, 2, 3, 4, 5] rfl)
  · exact absurd hkb c9

set_option maxHeartbeats 4000000 in
set_option maxRecDepth 100000 in
/-- nextDropped -/
theorem law_16 {G : zG} (hg : zGW G) {l : Launch} {D : va_G} {cy : Nat → ClassId} {I : va_W → va_W → Prop} {x0 x9 ow od b L : Nat} {xs : Nat → Int32} {p : Program} {e : Env} {s : State} {m : MethodId} {args : Array Value} {below : List Frame} {meth : Method} {c : Code} {H : Heap} {locs : List Loc} {cells slots : Nat} {Q : State → Prop} (hx : p.tables.exec = Jvm.exec) (hb : c.code = cL_law) (hml : c.maxLocals = 9) (hown : s.vm.findClass RL = some m.cls) (hts : ∀ w ∈ wsL_law, w.before args s = true) (hG : G (fun q => s.heap.size ≤ q) s) (hK : va_K D vwCl (zT cy) s) (hX : va_X b L xs s s.heap) (hbl : b < s.heap.size) {w mw : va_W} {i : Nat} (hi : i + 2 < L) (hL : L ≤ 1536) (hI : I w mw) (hhd : ∀ w m, I w m → zHd x0 x9 w m) (hP : va_P D vwCl (w ++ mw) H) (hD : va_D (fun q => s.heap.size ≤ q) (w ++ mw)) (hS : va_S (fun q => s.heap.size ≤ q) s.heap H locs) (ls : Array Slot) (hl : lv_has ls 9 [(0, .ref b), (1, .ref x0), (2, .ref x9), (3, .ref ow), (4, .ref od), (5, .int (nI i))]) (hrc : cells + 2 ≤ 603072) (hrs : slots + 96 ≤ 7202922) (harm : zArmS G D cy l I x9 yL_nextDropped wsL_nextDropped [.ref x0, .int (xs (i + 1)), .ref ow] yX6_nextDropped wsX6_nextDropped [.ref x9, .int (xs (i + 1))] (fun w' b => zOut ow cy w' b.toInt64) w mw) (kn : ∀ (w' m' : va_W) (H1 : Heap) (locs1 : List Loc) (ls1 : Array Slot), I w' m' → va_P D vwCl (w' ++ m') H1 → va_D (fun q => s.heap.size ≤ q) (w' ++ m') → va_S (fun q => s.heap.size ≤ q) s.heap H1 locs1 → lv_has ls1 9 [(0, .ref b), (1, .ref x0), (2, .ref x9), (3, .ref ow), (4, .ref od), (5, .int (nI i))] → W p l e room_1 s m args below meth c H1 locs1 (cells + 2) (slots + 96) Q (F0 m 2834 ls1 [])) : W p l e room_1 s m args below meth c H locs cells slots Q (F0 m 1027 ls []) := by
  refine lv_aload_n hx hb dL_law_1027 rfl (lv_at hl 1 rfl) ?_
  refine lv_aload_n hx hb dL_law_1028 rfl (lv_at hl 0 rfl) ?_
  refine lv_iload hx hb dL_law_1029 (lv_at hl 5 rfl) ?_
  refine lv_iconst (v := 1) hx hb dL_law_1031 (by decide) ?_
  refine lv_iadd hx hb dL_law_1032 ?_
  refine z_top (y := nI (i + 1)) (nI_add i 1) ?_
  refine va_sld hx hb hX hbl (Nat.not_le.mpr hbl) hS (vp_in_nI (n := i + 1) (by omega) (by omega)) dL_law_1033 ?_
  refine z_top (y := xs (i + 1)) (by rw [nI_clamp (by omega)]) ?_
  refine lv_aload_n hx hb dL_law_1034 rfl (lv_at hl 3 rfl) ?_
  obtain ⟨Φ, Ψ, hM1, hM2, hpure⟩ := harm
  refine zlS (As := [.ref x0, .int (xs (i + 1)), .ref ow]) (rest := []) (hh := [(0, 9, 12, 13), (0, 9, 15, 53)]) hg.1.1.1.1.1 ⟨hx, hb, hml, hown, hts⟩ hM1 (vx_cwSW 3 hts gL_law_L_nextDropped rfl rfl rfl (by decide +kernel) ⟨Nat.le_of_ble_eq_true rfl, Nat.le_of_ble_eq_true rfl⟩) hG hK hP hD hS (fun _ h => h) rfl hl.1 rfl (Nat.le_of_ble_eq_true rfl) dL_law_1035 ⟨hrc, hrs⟩ (fun w1 o1 H locs h1 hP hD hS => ?_)
  obtain ⟨k, rfl, h1⟩ := h1
  have hP := va_P_swap hP
  have hD := va_D_swap hD
  refine lv_istore (lv' := [(6, .int k), (0, .ref b), (1, .ref x0), (2, .ref x9), (3, .ref ow), (4, .ref od), (5, .int (nI i))]) hx hb dL_law_1038 hl (by decide) rfl (fun ls hl => ?_)
  refine lv_aload_n hx hb dL_law_1040 rfl (lv_at hl 3 rfl) ?_
  refine lv_aload_n hx hb dL_law_1041 rfl (lv_at hl 1 rfl) ?_
  refine lv_iload hx hb dL_law_1042 (lv_at hl 6 rfl) ?_
  refine lv_iconst (v := 1) hx hb dL_law_1044 (by decide) ?_
  refine lv_iadd hx hb dL_law_1045 ?_
  refine z_top (y := nI (i + 1)) (nI_add i 1) ?_
  refine va_sld hx hb hX hbl (Nat.not_le.mpr hbl) hS (vp_in_nI (n := i + 1) (by omega) (by omega)) dL_law_1046 ?_
  refine z_top (y := xs (i + 1)) (by rw [nI_clamp (by omega)]) ?_
  obtain ⟨⟨fs0, e0⟩, fs9, e9⟩ := hhd _ _ hI
  refine zlV (ci := 10) (As := [.int (xs (i + 1))]) (rest := []) 0 hg.1.1.1.1.1 ⟨hx, hb, hml, hown, hts⟩ hM2 (cwV 1 hts gL_law_X6_nextDropped rfl rfl rfl (by decide +kernel) ⟨Nat.le_of_ble_eq_true rfl, Nat.le_of_ble_eq_true rfl⟩) hG hK hP hD hS (fun _ h => h) rfl e9 rfl hl.1 rfl (Nat.le_of_ble_eq_true rfl) dL_law_1047 ⟨hrc, hrs⟩ (fun m1 o2 H locs h2 hP hD hS => ?_)
  obtain ⟨bb, rfl, h2⟩ := h2
  obtain ⟨hth, hko, hI1⟩ := hpure w1 k m1 bb h1 h2
  refine lv_istore (lv' := [(7, .int bb), (6, .int k), (0, .ref b), (1, .ref x0), (2, .ref x9), (3, .ref ow), (4, .ref od), (5, .int (nI i))]) hx hb dL_law_1050 hl (by decide) rfl (fun ls hl => ?_)
  refine lv_aload_n hx hb dL_law_1052 rfl (lv_at hl 4 rfl) ?_
  obtain ⟨⟨fs1, e1⟩, fs2, e2⟩ := hhd _ _ hI1
  refine zlV (ci := 10) (As := []) (rest := []) 0 hg.1.1.1.1.1 ⟨hx, hb, hml, hown, hts⟩ hth (cwV 0 hts gL_law_X6_thrown rfl rfl rfl (by decide +kernel) ⟨Nat.le_of_ble_eq_true rfl, Nat.le_of_ble_eq_true rfl⟩) hG hK hP hD hS (fun _ h => h) rfl e2 rfl hl.1 rfl (Nat.le_of_ble_eq_true rfl) dL_law_1053 ⟨hrc, hrs⟩ (fun m2 o3 H locs h3 hP hD hS => ?_)
  obtain ⟨em, rfl⟩ := h3
  rw [em] at hP hD
  have hP := va_P_swap hP
  have hD := va_D_swap hD
  refine lv_iload hx hb dL_law_1056 (lv_at hl 1 rfl) ?_
  refine lv_icmp_eq (tgt := 1063) hx hb dL_law_1058 (by decide) (fun c9 => ?_) (fun c9 => ?_)
  · skip
    refine lv_iload hx hb dL_law_1063 (lv_at hl 1 rfl) ?_
    refine lv_if_ne (tgt := 1080) hx hb dL_law_1065 (by decide) (fun c9 => ?_) (fun c9 => ?_)
    · skip
      refine lv_goto (tgt := 2834) hx hb dL_law_1080 (by decide) ?_
      exact kn w1 m1 H locs ls hI1 hP hD hS (lv_sub hl [2, 3, 4, 5, 6, 7] rfl)
    · skip
      obtain ⟨f, h47, hf⟩ := hko c9
      refine lv_aload_n hx hb dL_law_1068 rfl (lv_at hl 5 rfl) ?_
      refine lv_iconst (v := 0) hx hb dL_law_1069 (by decide) ?_
      refine z_top (y := nI 0) rfl ?_
      refine va_lald hx hb hK hP 47 3 (z_inl h47) rfl (vp_in_nI (n := 0) (by decide) (by decide)) dL_law_1070 ?_
      rw [show f (nI 0).toNatClampNeg = _ from hf]
      refine lv_iload hx hb dL_law_1071 (lv_at hl 0 rfl) ?_
      refine lv_i2l hx hb dL_law_1073 rfl ?_
      refine W.lcmp hx hb dL_law_1074 ?_
      refine z_top (y := 0) (lg_cmp_rf rfl) ?_
      refine lv_if_eq (tgt := 1080) hx hb dL_law_1075 (by decide) (fun c9 => ?_) (fun c9 => ?_)
      · skip
        refine lv_goto (tgt := 2834) hx hb dL_law_1080 (by decide) ?_
        exact kn w1 m1 H locs ls hI1 hP hD hS (lv_sub hl [2, 3, 4, 5, 6, 7] rfl)
      · exact absurd rfl c9
  · exact absurd rfl c9

set_option maxHeartbeats 4000000 in
set_option maxRecDepth 100000 in
/-- addYarn -/
theorem law_17 {G : zG} (hg : zGW G) {l : Launch} {D : va_G} {cy : Nat → ClassId} {I : va_W → va_W → Prop} {x0 x9 ow od b L : Nat} {xs : Nat → Int32} {p : Program} {e : Env} {s : State} {m : MethodId} {args : Array Value} {below : List Frame} {meth : Method} {c : Code} {H : Heap} {locs : List Loc} {cells slots : Nat} {Q : State → Prop} (hx : p.tables.exec = Jvm.exec) (hb : c.code = cL_law) (hml : c.maxLocals = 9) (hown : s.vm.findClass RL = some m.cls) (hts : ∀ w ∈ wsL_law, w.before args s = true) (hG : G (fun q => s.heap.size ≤ q) s) (hK : va_K D vwCl (zT cy) s) (hX : va_X b L xs s s.heap) (hbl : b < s.heap.size) {w mw : va_W} {i : Nat} (hi : i + 2 < L) (hL : L ≤ 1536) (hI : I w mw) (hhd : ∀ w m, I w m → zHd x0 x9 w m) (hP : va_P D vwCl (w ++ mw) H) (hD : va_D (fun q => s.heap.size ≤ q) (w ++ mw)) (hS : va_S (fun q => s.heap.size ≤ q) s.heap H locs) (ls : Array Slot) (hl : lv_has ls 9 [(0, .ref b), (1, .ref x0), (2, .ref x9), (3, .ref ow), (4, .ref od), (5, .int (nI i))]) (hrc : cells + 2 ≤ 603072) (hrs : slots + 96 ≤ 7202922) (harm : zArmS G D cy l I x9 yL_addYarn wsL_addYarn [.ref x0, .int (xs (i + 1)), .int (xs (i + 2)), .ref ow] yX6_addYarn wsX6_addYarn [.ref x9, .int (xs (i + 1)), .int (xs (i + 2))] (fun w' b => zOut ow cy w' b.toInt64) w mw) (kn : ∀ (w' m' : va_W) (H1 : Heap) (locs1 : List Loc) (ls1 : Array Slot), I w' m' → va_P D vwCl (w' ++ m') H1 → va_D (fun q => s.heap.size ≤ q) (w' ++ m') → va_S (fun q => s.heap.size ≤ q) s.heap H1 locs1 → lv_has ls1 9 [(0, .ref b), (1, .ref x0), (2, .ref x9), (3, .ref ow), (4, .ref od), (5, .int (nI i))] → W p l e room_1 s m args below meth c H1 locs1 (cells + 2) (slots + 96) Q (F0 m 2834 ls1 [])) : W p l e room_1 s m args below meth c H locs cells slots Q (F0 m 1083 ls []) := by
  refine lv_aload_n hx hb dL_law_1083 rfl (lv_at hl 1 rfl) ?_
  refine lv_aload_n hx hb dL_law_1084 rfl (lv_at hl 0 rfl) ?_
  refine lv_iload hx hb dL_law_1085 (lv_at hl 5 rfl) ?_
  refine lv_iconst (v := 1) hx hb dL_law_1087 (by decide) ?_
  refine lv_iadd hx hb dL_law_1088 ?_
  refine z_top (y := nI (i + 1)) (nI_add i 1) ?_
  refine va_sld hx hb hX hbl (Nat.not_le.mpr hbl) hS (vp_in_nI (n := i + 1) (by omega) (by omega)) dL_law_1089 ?_
  refine z_top (y := xs (i + 1)) (by rw [nI_clamp (by omega)]) ?_
  refine lv_aload_n hx hb dL_law_1090 rfl (lv_at hl 0 rfl) ?_
  refine lv_iload hx hb dL_law_1091 (lv_at hl 5 rfl) ?_
  refine lv_iconst (v := 2) hx hb dL_law_1093 (by decide) ?_
  refine lv_iadd hx hb dL_law_1094 ?_
  refine z_top (y := nI (i + 2)) (nI_add i 2) ?_
  refine va_sld hx hb hX hbl (Nat.not_le.mpr hbl) hS (vp_in_nI (n := i + 2) (by omega) (by omega)) dL_law_1095 ?_
  refine z_top (y := xs (i + 2)) (by rw [nI_clamp (by omega)]) ?_
  refine lv_aload_n hx hb dL_law_1096 rfl (lv_at hl 3 rfl) ?_
  obtain ⟨Φ, Ψ, hM1, hM2, hpure⟩ := harm
  refine zlS (As := [.ref x0, .int (xs (i + 1)), .int (xs (i + 2)), .ref ow]) (rest := []) (hh := [(0, 10, 13, 13), (0, 10, 17, 15), (0, 10, 21, 17)]) hg.1.1.1.1.1 ⟨hx, hb, hml, hown, hts⟩ hM1 (vx_cwSW 4 hts gL_law_L_addYarn rfl rfl rfl (by decide +kernel) ⟨Nat.le_of_ble_eq_true rfl, Nat.le_of_ble_eq_true rfl⟩) hG hK hP hD hS (fun _ h => h) rfl hl.1 rfl (Nat.le_of_ble_eq_true rfl) dL_law_1097 ⟨hrc, hrs⟩ (fun w1 o1 H locs h1 hP hD hS => ?_)
  obtain ⟨k, rfl, h1⟩ := h1
  have hP := va_P_swap hP
  have hD := va_D_swap hD
  refine lv_istore (lv' := [(6, .int k), (0, .ref b), (1, .ref x0), (2, .ref x9), (3, .ref ow), (4, .ref od), (5, .int (nI i))]) hx hb dL_law_1100 hl (by decide) rfl (fun ls hl => ?_)
  refine lv_aload_n hx hb dL_law_1102 rfl (lv_at hl 3 rfl) ?_
  refine lv_aload_n hx hb dL_law_1103 rfl (lv_at hl 1 rfl) ?_
  refine lv_iload hx hb dL_law_1104 (lv_at hl 6 rfl) ?_
  refine lv_iconst (v := 1) hx hb dL_law_1106 (by decide) ?_
  refine lv_iadd hx hb dL_law_1107 ?_
  refine z_top (y := nI (i + 1)) (nI_add i 1) ?_
  refine va_sld hx hb hX hbl (Nat.not_le.mpr hbl) hS (vp_in_nI (n := i + 1) (by omega) (by omega)) dL_law_1108 ?_
  refine z_top (y := xs (i + 1)) (by rw [nI_clamp (by omega)]) ?_
  refine lv_aload_n hx hb dL_law_1109 rfl (lv_at hl 1 rfl) ?_
  refine lv_iload hx hb dL_law_1110 (lv_at hl 6 rfl) ?_
  refine lv_iconst (v := 2) hx hb dL_law_1112 (by decide) ?_
  refine lv_iadd hx hb dL_law_1113 ?_
  refine z_top (y := nI (i + 2)) (nI_add i 2) ?_
  refine va_sld hx hb hX hbl (Nat.not_le.mpr hbl) hS (vp_in_nI (n := i + 2) (by omega) (by omega)) dL_law_1114 ?_
  refine z_top (y := xs (i + 2)) (by rw [nI_clamp (by omega)]) ?_
  obtain ⟨⟨fs0, e0⟩, fs9, e9⟩ := hhd _ _ hI
  refine zlV (ci := 10) (As := [.int (xs (i + 1)), .int (xs (i + 2))]) (rest := []) 0 hg.1.1.1.1.1 ⟨hx, hb, hml, hown, hts⟩ hM2 (cwV 2 hts gL_law_X6_addYarn rfl rfl rfl (by decide +kernel) ⟨Nat.le_of_ble_eq_true rfl, Nat.le_of_ble_eq_true rfl⟩) hG hK hP hD hS (fun _ h => h) rfl e9 rfl hl.1 rfl (Nat.le_of_ble_eq_true rfl) dL_law_1115 ⟨hrc, hrs⟩ (fun m1 o2 H locs h2 hP hD hS => ?_)
  obtain ⟨bb, rfl, h2⟩ := h2
  obtain ⟨hth, hko, hI1⟩ := hpure w1 k m1 bb h1 h2
  refine lv_istore (lv' := [(7, .int bb), (6, .int k), (0, .ref b), (1, .ref x0), (2, .ref x9), (3, .ref ow), (4, .ref od), (5, .int (nI i))]) hx hb dL_law_1118 hl (by decide) rfl (fun ls hl => ?_)
  refine lv_aload_n hx hb dL_law_1120 rfl (lv_at hl 4 rfl) ?_
  obtain ⟨⟨fs1, e1⟩, fs2, e2⟩ := hhd _ _ hI1
  refine zlV (ci := 10) (As := []) (rest := []) 0 hg.1.1.1.1.1 ⟨hx, hb, hml, hown, hts⟩ hth (cwV 0 hts gL_law_X6_thrown rfl rfl rfl (by decide +kernel) ⟨Nat.le_of_ble_eq_true rfl, Nat.le_of_ble_eq_true rfl⟩) hG hK hP hD hS (fun _ h => h) rfl e2 rfl hl.1 rfl (Nat.le_of_ble_eq_true rfl) dL_law_1121 ⟨hrc, hrs⟩ (fun m2 o3 H locs h3 hP hD hS => ?_)
  obtain ⟨em, rfl⟩ := h3
  rw [em] at hP hD
  have hP := va_P_swap hP
  have hD := va_D_swap hD
  refine lv_iload hx hb dL_law_1124 (lv_at hl 1 rfl) ?_
  refine lv_icmp_eq (tgt := 1131) hx hb dL_law_1126 (by decide) (fun c9 => ?_) (fun c9 => ?_)
  · skip
    refine lv_iload hx hb dL_law_1131 (lv_at hl 1 rfl) ?_
    refine lv_if_ne (tgt := 1148) hx hb dL_law_1133 (by decide) (fun c9 => ?_) (fun c9 => ?_)
    · skip
      refine lv_goto (tgt := 2834) hx hb dL_law_1148 (by decide) ?_
      exact kn w1 m1 H locs ls hI1 hP hD hS (lv_sub hl [2, 3, 4, 5, 6, 7] rfl)
    · skip
      obtain ⟨f, h47, hf⟩ := hko c9
      refine lv_aload_n hx hb dL_law_1136 rfl (lv_at hl 5 rfl) ?_
      refine lv_iconst (v := 0) hx hb dL_law_1137 (by decide) ?_
      refine z_top (y := nI 0) rfl ?_
      refine va_lald hx hb hK hP 47 3 (z_inl h47) rfl (vp_in_nI (n := 0) (by decide) (by decide)) dL_law_1138 ?_
      rw [show f (nI 0).toNatClampNeg = _ from hf]
      refine lv_iload hx hb dL_law_1139 (lv_at hl 0 rfl) ?_
      refine lv_i2l hx hb dL_law_1141 rfl ?_
      refine W.lcmp hx hb dL_law_1142 ?_
      refine z_top (y := 0) (lg_cmp_rf rfl) ?_
      refine lv_if_eq (tgt := 1148) hx hb dL_law_1143 (by decide) (fun c9 => ?_) (fun c9 => ?_)
      · skip
        refine lv_goto (tgt := 2834) hx hb dL_law_1148 (by decide) ?_
        exact kn w1 m1 H locs ls hI1 hP hD hS (lv_sub hl [2, 3, 4, 5, 6, 7] rfl)
      · exact absurd rfl c9
  · exact absurd rfl c9

set_option maxHeartbeats 4000000 in
set_option maxRecDepth 100000 in
/-- selectFeeder -/
theorem law_18 {G : zG} (hg : zGW G) {l : Launch} {D : va_G} {cy : Nat → ClassId} {I : va_W → va_W → Prop} {x0 x9 ow od b L : Nat} {xs : Nat → Int32} {p : Program} {e : Env} {s : State} {m : MethodId} {args : Array Value} {below : List Frame} {meth : Method} {c : Code} {H : Heap} {locs : List Loc} {cells slots : Nat} {Q : State → Prop} (hx : p.tables.exec = Jvm.exec) (hb : c.code = cL_law) (hml : c.maxLocals = 9) (hown : s.vm.findClass RL = some m.cls) (hts : ∀ w ∈ wsL_law, w.before args s = true) (hG : G (fun q => s.heap.size ≤ q) s) (hK : va_K D vwCl (zT cy) s) (hX : va_X b L xs s s.heap) (hbl : b < s.heap.size) {w mw : va_W} {i : Nat} (hi : i + 2 < L) (hL : L ≤ 1536) (hI : I w mw) (hhd : ∀ w m, I w m → zHd x0 x9 w m) (hP : va_P D vwCl (w ++ mw) H) (hD : va_D (fun q => s.heap.size ≤ q) (w ++ mw)) (hS : va_S (fun q => s.heap.size ≤ q) s.heap H locs) (ls : Array Slot) (hl : lv_has ls 9 [(0, .ref b), (1, .ref x0), (2, .ref x9), (3, .ref ow), (4, .ref od), (5, .int (nI i))]) (hrc : cells + 2 ≤ 603072) (hrs : slots + 96 ≤ 7202922) (harm : zArmS G D cy l I x9 yL_selectFeeder wsL_selectFeeder [.ref x0, .int (xs (i + 1)), .ref ow] yX6_selectFeeder wsX6_selectFeeder [.ref x9, .int (xs (i + 1))] (fun w' b => zOut ow cy w' b.toInt64) w mw) (kn : ∀ (w' m' : va_W) (H1 : Heap) (locs1 : List Loc) (ls1 : Array Slot), I w' m' → va_P D vwCl (w' ++ m') H1 → va_D (fun q => s.heap.size ≤ q) (w' ++ m') → va_S (fun q => s.heap.size ≤ q) s.heap H1 locs1 → lv_has ls1 9 [(0, .ref b), (1, .ref x0), (2, .ref x9), (3, .ref ow), (4, .ref od), (5, .int (nI i))] → W p l e room_1 s m args below meth c H1 locs1 (cells + 2) (slots + 96) Q (F0 m 2834 ls1 [])) : W p l e room_1 s m args below meth c H locs cells slots Q (F0 m 1151 ls []) := by
  refine lv_aload_n hx hb dL_law_1151 rfl (lv_at hl 1 rfl) ?_
  refine lv_aload_n hx hb dL_law_1152 rfl (lv_at hl 0 rfl) ?_
  refine lv_iload hx hb dL_law_1153 (lv_at hl 5 rfl) ?_
  refine lv_iconst (v := 1) hx hb dL_law_1155 (by decide) ?_
  refine lv_iadd hx hb dL_law_1156 ?_
  refine z_top (y := nI (i + 1)) (nI_add i 1) ?_
  refine va_sld hx hb hX hbl (Nat.not_le.mpr hbl) hS (vp_in_nI (n := i + 1) (by omega) (by omega)) dL_law_1157 ?_
  refine z_top (y := xs (i + 1)) (by rw [nI_clamp (by omega)]) ?_
  refine lv_aload_n hx hb dL_law_1158 rfl (lv_at hl 3 rfl) ?_
  obtain ⟨Φ, Ψ, hM1, hM2, hpure⟩ := harm
  refine zlS (As := [.ref x0, .int (xs (i + 1)), .ref ow]) (rest := []) (hh := [(0, 9, 12, 13)]) hg.1.1.1.1.1 ⟨hx, hb, hml, hown, hts⟩ hM1 (vx_cwSW 3 hts gL_law_L_selectFeeder rfl rfl rfl (by decide +kernel) ⟨Nat.le_of_ble_eq_true rfl, Nat.le_of_ble_eq_true rfl⟩) hG hK hP hD hS (fun _ h => h) rfl hl.1 rfl (Nat.le_of_ble_eq_true rfl) dL_law_1159 ⟨hrc, hrs⟩ (fun w1 o1 H locs h1 hP hD hS => ?_)
  obtain ⟨k, rfl, h1⟩ := h1
  have hP := va_P_swap hP
  have hD := va_D_swap hD
  refine lv_istore (lv' := [(6, .int k), (0, .ref b), (1, .ref x0), (2, .ref x9), (3, .ref ow), (4, .ref od), (5, .int (nI i))]) hx hb dL_law_1162 hl (by decide) rfl (fun ls hl => ?_)
  refine lv_aload_n hx hb dL_law_1164 rfl (lv_at hl 3 rfl) ?_
  refine lv_aload_n hx hb dL_law_1165 rfl (lv_at hl 1 rfl) ?_
  refine lv_iload hx hb dL_law_1166 (lv_at hl 6 rfl) ?_
  refine lv_iconst (v := 1) hx hb dL_law_1168 (by decide) ?_
  refine lv_iadd hx hb dL_law_1169 ?_
  refine z_top (y := nI (i + 1)) (nI_add i 1) ?_
  refine va_sld hx hb hX hbl (Nat.not_le.mpr hbl) hS (vp_in_nI (n := i + 1) (by omega) (by omega)) dL_law_1170 ?_
  refine z_top (y := xs (i + 1)) (by rw [nI_clamp (by omega)]) ?_
  obtain ⟨⟨fs0, e0⟩, fs9, e9⟩ := hhd _ _ hI
  refine zlV (ci := 10) (As := [.int (xs (i + 1))]) (rest := []) 0 hg.1.1.1.1.1 ⟨hx, hb, hml, hown, hts⟩ hM2 (cwV 1 hts gL_law_X6_selectFeeder rfl rfl rfl (by decide +kernel) ⟨Nat.le_of_ble_eq_true rfl, Nat.le_of_ble_eq_true rfl⟩) hG hK hP hD hS (fun _ h => h) rfl e9 rfl hl.1 rfl (Nat.le_of_ble_eq_true rfl) dL_law_1171 ⟨hrc, hrs⟩ (fun m1 o2 H locs h2 hP hD hS => ?_)
  obtain ⟨bb, rfl, h2⟩ := h2
  obtain ⟨hth, hko, hI1⟩ := hpure w1 k m1 bb h1 h2
  refine lv_istore (lv' := [(7, .int bb), (6, .int k), (0, .ref b), (1, .ref x0), (2, .ref x9), (3, .ref ow), (4, .ref od), (5, .int (nI i))]) hx hb dL_law_1174 hl (by decide) rfl (fun ls hl => ?_)
  refine lv_aload_n hx hb dL_law_1176 rfl (lv_at hl 4 rfl) ?_
  obtain ⟨⟨fs1, e1⟩, fs2, e2⟩ := hhd _ _ hI1
  refine zlV (ci := 10) (As := []) (rest := []) 0 hg.1.1.1.1.1 ⟨hx, hb, hml, hown, hts⟩ hth (cwV 0 hts gL_law_X6_thrown rfl rfl rfl (by decide +kernel) ⟨Nat.le_of_ble_eq_true rfl, Nat.le_of_ble_eq_true rfl⟩) hG hK hP hD hS (fun _ h => h) rfl e2 rfl hl.1 rfl (Nat.le_of_ble_eq_true rfl) dL_law_1177 ⟨hrc, hrs⟩ (fun m2 o3 H locs h3 hP hD hS => ?_)
  obtain ⟨em, rfl⟩ := h3
  rw [em] at hP hD
  have hP := va_P_swap hP
  have hD := va_D_swap hD
  refine lv_iload hx hb dL_law_1180 (lv_at hl 1 rfl) ?_
  refine lv_icmp_eq (tgt := 1187) hx hb dL_law_1182 (by decide) (fun c9 => ?_) (fun c9 => ?_)
  · skip
    refine lv_iload hx hb dL_law_1187 (lv_at hl 1 rfl) ?_
    refine lv_if_ne (tgt := 1204) hx hb dL_law_1189 (by decide) (fun c9 => ?_) (fun c9 => ?_)
    · skip
      refine lv_goto (tgt := 2834) hx hb dL_law_1204 (by decide) ?_
      exact kn w1 m1 H locs ls hI1 hP hD hS (lv_sub hl [2, 3, 4, 5, 6, 7] rfl)
    · skip
      obtain ⟨f, h47, hf⟩ := hko c9
      refine lv_aload_n hx hb dL_law_1192 rfl (lv_at hl 5 rfl) ?_
      refine lv_iconst (v := 0) hx hb dL_law_1193 (by decide) ?_
      refine z_top (y := nI 0) rfl ?_
      refine va_lald hx hb hK hP 47 3 (z_inl h47) rfl (vp_in_nI (n := 0) (by decide) (by decide)) dL_law_1194 ?_
      rw [show f (nI 0).toNatClampNeg = _ from hf]
      refine lv_iload hx hb dL_law_1195 (lv_at hl 0 rfl) ?_
      refine lv_i2l hx hb dL_law_1197 rfl ?_
      refine W.lcmp hx hb dL_law_1198 ?_
      refine z_top (y := 0) (lg_cmp_rf rfl) ?_
      refine lv_if_eq (tgt := 1204) hx hb dL_law_1199 (by decide) (fun c9 => ?_) (fun c9 => ?_)
      · skip
        refine lv_goto (tgt := 2834) hx hb dL_law_1204 (by decide) ?_
        exact kn w1 m1 H locs ls hI1 hP hD hS (lv_sub hl [2, 3, 4, 5, 6, 7] rfl)
      · exact absurd rfl c9
  · exact absurd rfl c9

set_option maxHeartbeats 4000000 in
set_option maxRecDepth 100000 in
/-- setTension -/
theorem law_19 {G : zG} (hg : zGW G) {l : Launch} {D : va_G} {cy : Nat → ClassId} {I : va_W → va_W → Prop} {x0 x9 ow od b L : Nat} {xs : Nat → Int32} {p : Program} {e : Env} {s : State} {m : MethodId} {args : Array Value} {below : List Frame} {meth : Method} {c : Code} {H : Heap} {locs : List Loc} {cells slots : Nat} {Q : State → Prop} (hx : p.tables.exec = Jvm.exec) (hb : c.code = cL_law) (hml : c.maxLocals = 9) (hown : s.vm.findClass RL = some m.cls) (hts : ∀ w ∈ wsL_law, w.before args s = true) (hG : G (fun q => s.heap.size ≤ q) s) (hK : va_K D vwCl (zT cy) s) (hX : va_X b L xs s s.heap) (hbl : b < s.heap.size) {w mw : va_W} {i : Nat} (hi : i + 2 < L) (hL : L ≤ 1536) (hI : I w mw) (hhd : ∀ w m, I w m → zHd x0 x9 w m) (hP : va_P D vwCl (w ++ mw) H) (hD : va_D (fun q => s.heap.size ≤ q) (w ++ mw)) (hS : va_S (fun q => s.heap.size ≤ q) s.heap H locs) (ls : Array Slot) (hl : lv_has ls 9 [(0, .ref b), (1, .ref x0), (2, .ref x9), (3, .ref ow), (4, .ref od), (5, .int (nI i))]) (hrc : cells + 2 ≤ 603072) (hrs : slots + 96 ≤ 7202922) (harm : zArmS G D cy l I x9 yL_setTension wsL_setTension [.ref x0, .int (xs (i + 1)), .ref ow] yX6_setTension wsX6_setTension [.ref x9, .int (xs (i + 1))] (fun w' b => zOut ow cy w' b.toInt64) w mw) (kn : ∀ (w' m' : va_W) (H1 : Heap) (locs1 : List Loc) (ls1 : Array Slot), I w' m' → va_P D vwCl (w' ++ m') H1 → va_D (fun q => s.heap.size ≤ q) (w' ++ m') → va_S (fun q => s.heap.size ≤ q) s.heap H1 locs1 → lv_has ls1 9 [(0, .ref b), (1, .ref x0), (2, .ref x9), (3, .ref ow), (4, .ref od), (5, .int (nI i))] → W p l e room_1 s m args below meth c H1 locs1 (cells + 2) (slots + 96) Q (F0 m 2834 ls1 [])) : W p l e room_1 s m args below meth c H locs cells slots Q (F0 m 1207 ls []) := by
  refine lv_aload_n hx hb dL_law_1207 rfl (lv_at hl 1 rfl) ?_
  refine lv_aload_n hx hb dL_law_1208 rfl (lv_at hl 0 rfl) ?_
  refine lv_iload hx hb dL_law_1209 (lv_at hl 5 rfl) ?_
  refine lv_iconst (v := 1) hx hb dL_law_1211 (by decide) ?_
  refine lv_iadd hx hb dL_law_1212 ?_
  refine z_top (y := nI (i + 1)) (nI_add i 1) ?_
  refine va_sld hx hb hX hbl (Nat.not_le.mpr hbl) hS (vp_in_nI (n := i + 1) (by omega) (by omega)) dL_law_1213 ?_
  refine z_top (y := xs (i + 1)) (by rw [nI_clamp (by omega)]) ?_
  refine lv_aload_n hx hb dL_law_1214 rfl (lv_at hl 3 rfl) ?_
  obtain ⟨Φ, Ψ, hM1, hM2, hpure⟩ := harm
  refine zlS (As := [.ref x0, .int (xs (i + 1)), .ref ow]) (rest := []) (hh := [(0, 9, 12, 15)]) hg.1.1.1.1.1 ⟨hx, hb, hml, hown, hts⟩ hM1 (vx_cwSW 3 hts gL_law_L_setTension rfl rfl rfl (by decide +kernel) ⟨Nat.le_of_ble_eq_true rfl, Nat.le_of_ble_eq_true rfl⟩) hG hK hP hD hS (fun _ h => h) rfl hl.1 rfl (Nat.le_of_ble_eq_true rfl) dL_law_1215 ⟨hrc, hrs⟩ (fun w1 o1 H locs h1 hP hD hS => ?_)
  obtain ⟨k, rfl, h1⟩ := h1
  have hP := va_P_swap hP
  have hD := va_D_swap hD
  refine lv_istore (lv' := [(6, .int k), (0, .ref b), (1, .ref x0), (2, .ref x9), (3, .ref ow), (4, .ref od), (5, .int (nI i))]) hx hb dL_law_1218 hl (by decide) rfl (fun ls hl => ?_)
  refine lv_aload_n hx hb dL_law_1220 rfl (lv_at hl 3 rfl) ?_
  refine lv_aload_n hx hb dL_law_1221 rfl (lv_at hl 1 rfl) ?_
  refine lv_iload hx hb dL_law_1222 (lv_at hl 6 rfl) ?_
  refine lv_iconst (v := 1) hx hb dL_law_1224 (by decide) ?_
  refine lv_iadd hx hb dL_law_1225 ?_
  refine z_top (y := nI (i + 1)) (nI_add i 1) ?_
  refine va_sld hx hb hX hbl (Nat.not_le.mpr hbl) hS (vp_in_nI (n := i + 1) (by omega) (by omega)) dL_law_1226 ?_
  refine z_top (y := xs (i + 1)) (by rw [nI_clamp (by omega)]) ?_
  obtain ⟨⟨fs0, e0⟩, fs9, e9⟩ := hhd _ _ hI
  refine zlV (ci := 10) (As := [.int (xs (i + 1))]) (rest := []) 0 hg.1.1.1.1.1 ⟨hx, hb, hml, hown, hts⟩ hM2 (cwV 1 hts gL_law_X6_setTension rfl rfl rfl (by decide +kernel) ⟨Nat.le_of_ble_eq_true rfl, Nat.le_of_ble_eq_true rfl⟩) hG hK hP hD hS (fun _ h => h) rfl e9 rfl hl.1 rfl (Nat.le_of_ble_eq_true rfl) dL_law_1227 ⟨hrc, hrs⟩ (fun m1 o2 H locs h2 hP hD hS => ?_)
  obtain ⟨bb, rfl, h2⟩ := h2
  obtain ⟨hth, hko, hI1⟩ := hpure w1 k m1 bb h1 h2
  refine lv_istore (lv' := [(7, .int bb), (6, .int k), (0, .ref b), (1, .ref x0), (2, .ref x9), (3, .ref ow), (4, .ref od), (5, .int (nI i))]) hx hb dL_law_1230 hl (by decide) rfl (fun ls hl => ?_)
  refine lv_aload_n hx hb dL_law_1232 rfl (lv_at hl 4 rfl) ?_
  obtain ⟨⟨fs1, e1⟩, fs2, e2⟩ := hhd _ _ hI1
  refine zlV (ci := 10) (As := []) (rest := []) 0 hg.1.1.1.1.1 ⟨hx, hb, hml, hown, hts⟩ hth (cwV 0 hts gL_law_X6_thrown rfl rfl rfl (by decide +kernel) ⟨Nat.le_of_ble_eq_true rfl, Nat.le_of_ble_eq_true rfl⟩) hG hK hP hD hS (fun _ h => h) rfl e2 rfl hl.1 rfl (Nat.le_of_ble_eq_true rfl) dL_law_1233 ⟨hrc, hrs⟩ (fun m2 o3 H locs h3 hP hD hS => ?_)
  obtain ⟨em, rfl⟩ := h3
  rw [em] at hP hD
  have hP := va_P_swap hP
  have hD := va_D_swap hD
  refine lv_iload hx hb dL_law_1236 (lv_at hl 1 rfl) ?_
  refine lv_icmp_eq (tgt := 1243) hx hb dL_law_1238 (by decide) (fun c9 => ?_) (fun c9 => ?_)
  · skip
    refine lv_iload hx hb dL_law_1243 (lv_at hl 1 rfl) ?_
    refine lv_if_ne (tgt := 1260) hx hb dL_law_1245 (by decide) (fun c9 => ?_) (fun c9 => ?_)
    · skip
      refine lv_goto (tgt := 2834) hx hb dL_law_1260 (by decide) ?_
      exact kn w1 m1 H locs ls hI1 hP hD hS (lv_sub hl [2, 3, 4, 5, 6, 7] rfl)
    · skip
      obtain ⟨f, h47, hf⟩ := hko c9
      refine lv_aload_n hx hb dL_law_1248 rfl (lv_at hl 5 rfl) ?_
      refine lv_iconst (v := 0) hx hb dL_law_1249 (by decide) ?_
      refine z_top (y := nI 0) rfl ?_
      refine va_lald hx hb hK hP 47 3 (z_inl h47) rfl (vp_in_nI (n := 0) (by decide) (by decide)) dL_law_1250 ?_
      rw [show f (nI 0).toNatClampNeg = _ from hf]
      refine lv_iload hx hb dL_law_1251 (lv_at hl 0 rfl) ?_
      refine lv_i2l hx hb dL_law_1253 rfl ?_
      refine W.lcmp hx hb dL_law_1254 ?_
      refine z_top (y := 0) (lg_cmp_rf rfl) ?_
      refine lv_if_eq (tgt := 1260) hx hb dL_law_1255 (by decide) (fun c9 => ?_) (fun c9 => ?_)
      · skip
        refine lv_goto (tgt := 2834) hx hb dL_law_1260 (by decide) ?_
        exact kn w1 m1 H locs ls hI1 hP hD hS (lv_sub hl [2, 3, 4, 5, 6, 7] rfl)
      · exact absurd rfl c9
  · exact absurd rfl c9

set_option maxHeartbeats 4000000 in
set_option maxRecDepth 100000 in
/-- addPatternRow -/
theorem law_20 {G : zG} (hg : zGW G) {l : Launch} {D : va_G} {cy : Nat → ClassId} {I : va_W → va_W → Prop} {x0 x9 ow od b L : Nat} {xs : Nat → Int32} {p : Program} {e : Env} {s : State} {m : MethodId} {args : Array Value} {below : List Frame} {meth : Method} {c : Code} {H : Heap} {locs : List Loc} {cells slots : Nat} {Q : State → Prop} (hx : p.tables.exec = Jvm.exec) (hb : c.code = cL_law) (hml : c.maxLocals = 9) (hown : s.vm.findClass RL = some m.cls) (hts : ∀ w ∈ wsL_law, w.before args s = true) (hG : G (fun q => s.heap.size ≤ q) s) (hK : va_K D vwCl (zT cy) s) (hX : va_X b L xs s s.heap) (hbl : b < s.heap.size) {w mw : va_W} {i : Nat} (hi : i + 2 < L) (hL : L ≤ 1536) (hI : I w mw) (hhd : ∀ w m, I w m → zHd x0 x9 w m) (hP : va_P D vwCl (w ++ mw) H) (hD : va_D (fun q => s.heap.size ≤ q) (w ++ mw)) (hS : va_S (fun q => s.heap.size ≤ q) s.heap H locs) (ls : Array Slot) (hl : lv_has ls 9 [(0, .ref b), (1, .ref x0), (2, .ref x9), (3, .ref ow), (4, .ref od), (5, .int (nI i))]) (hrc : cells + 2 ≤ 603072) (hrs : slots + 96 ≤ 7202922) (harm : zArmS G D cy l I x9 yL_addPatternRow wsL_addPatternRow [.ref x0, .int (xs (i + 1)), .ref ow] yX6_addPatternRow wsX6_addPatternRow [.ref x9, .int (xs (i + 1))] (fun w' b => zOut ow cy w' b.toInt64) w mw) (kn : ∀ (w' m' : va_W) (H1 : Heap) (locs1 : List Loc) (ls1 : Array Slot), I w' m' → va_P D vwCl (w' ++ m') H1 → va_D (fun q => s.heap.size ≤ q) (w' ++ m') → va_S (fun q => s.heap.size ≤ q) s.heap H1 locs1 → lv_has ls1 9 [(0, .ref b), (1, .ref x0), (2, .ref x9), (3, .ref ow), (4, .ref od), (5, .int (nI i))] → W p l e room_1 s m args below meth c H1 locs1 (cells + 2) (slots + 96) Q (F0 m 2834 ls1 [])) : W p l e room_1 s m args below meth c H locs cells slots Q (F0 m 1263 ls []) := by
  refine lv_aload_n hx hb dL_law_1263 rfl (lv_at hl 1 rfl) ?_
  refine lv_aload_n hx hb dL_law_1264 rfl (lv_at hl 0 rfl) ?_
  refine lv_iload hx hb dL_law_1265 (lv_at hl 5 rfl) ?_
  refine lv_iconst (v := 1) hx hb dL_law_1267 (by decide) ?_
  refine lv_iadd hx hb dL_law_1268 ?_
  refine z_top (y := nI (i + 1)) (nI_add i 1) ?_
  refine va_sld hx hb hX hbl (Nat.not_le.mpr hbl) hS (vp_in_nI (n := i + 1) (by omega) (by omega)) dL_law_1269 ?_
  refine z_top (y := xs (i + 1)) (by rw [nI_clamp (by omega)]) ?_
  refine lv_aload_n hx hb dL_law_1270 rfl (lv_at hl 3 rfl) ?_
  obtain ⟨Φ, Ψ, hM1, hM2, hpure⟩ := harm
  refine zlS (As := [.ref x0, .int (xs (i + 1)), .ref ow]) (rest := []) (hh := [(0, 9, 12, 15), (0, 9, 15, 17)]) hg.1.1.1.1.1 ⟨hx, hb, hml, hown, hts⟩ hM1 (vx_cwSW 3 hts gL_law_L_addPatternRow rfl rfl rfl (by decide +kernel) ⟨Nat.le_of_ble_eq_true rfl, Nat.le_of_ble_eq_true rfl⟩) hG hK hP hD hS (fun _ h => h) rfl hl.1 rfl (Nat.le_of_ble_eq_true rfl) dL_law_1271 ⟨hrc, hrs⟩ (fun w1 o1 H locs h1 hP hD hS => ?_)
  obtain ⟨k, rfl, h1⟩ := h1
  have hP := va_P_swap hP
  have hD := va_D_swap hD
  refine lv_istore (lv' := [(6, .int k), (0, .ref b), (1, .ref x0), (2, .ref x9), (3, .ref ow), (4, .ref od), (5, .int (nI i))]) hx hb dL_law_1274 hl (by decide) rfl (fun ls hl => ?_)
  refine lv_aload_n hx hb dL_law_1276 rfl (lv_at hl 3 rfl) ?_
  refine lv_aload_n hx hb dL_law_1277 rfl (lv_at hl 1 rfl) ?_
  refine lv_iload hx hb dL_law_1278 (lv_at hl 6 rfl) ?_
  refine lv_iconst (v := 1) hx hb dL_law_1280 (by decide) ?_
  refine lv_iadd hx hb dL_law_1281 ?_
  refine z_top (y := nI (i + 1)) (nI_add i 1) ?_
  refine va_sld hx hb hX hbl (Nat.not_le.mpr hbl) hS (vp_in_nI (n := i + 1) (by omega) (by omega)) dL_law_1282 ?_
  refine z_top (y := xs (i + 1)) (by rw [nI_clamp (by omega)]) ?_
  obtain ⟨⟨fs0, e0⟩, fs9, e9⟩ := hhd _ _ hI
  refine zlV (ci := 10) (As := [.int (xs (i + 1))]) (rest := []) 0 hg.1.1.1.1.1 ⟨hx, hb, hml, hown, hts⟩ hM2 (cwV 1 hts gL_law_X6_addPatternRow rfl rfl rfl (by decide +kernel) ⟨Nat.le_of_ble_eq_true rfl, Nat.le_of_ble_eq_true rfl⟩) hG hK hP hD hS (fun _ h => h) rfl e9 rfl hl.1 rfl (Nat.le_of_ble_eq_true rfl) dL_law_1283 ⟨hrc, hrs⟩ (fun m1 o2 H locs h2 hP hD hS => ?_)
  obtain ⟨bb, rfl, h2⟩ := h2
  obtain ⟨hth, hko, hI1⟩ := hpure w1 k m1 bb h1 h2
  refine lv_istore (lv' := [(7, .int bb), (6, .int k), (0, .ref b), (1, .ref x0), (2, .ref x9), (3, .ref ow), (4, .ref od), (5, .int (nI i))]) hx hb dL_law_1286 hl (by decide) rfl (fun ls hl => ?_)
  refine lv_aload_n hx hb dL_law_1288 rfl (lv_at hl 4 rfl) ?_
  obtain ⟨⟨fs1, e1⟩, fs2, e2⟩ := hhd _ _ hI1
  refine zlV (ci := 10) (As := []) (rest := []) 0 hg.1.1.1.1.1 ⟨hx, hb, hml, hown, hts⟩ hth (cwV 0 hts gL_law_X6_thrown rfl rfl rfl (by decide +kernel) ⟨Nat.le_of_ble_eq_true rfl, Nat.le_of_ble_eq_true rfl⟩) hG hK hP hD hS (fun _ h => h) rfl e2 rfl hl.1 rfl (Nat.le_of_ble_eq_true rfl) dL_law_1289 ⟨hrc, hrs⟩ (fun m2 o3 H locs h3 hP hD hS => ?_)
  obtain ⟨em, rfl⟩ := h3
  rw [em] at hP hD
  have hP := va_P_swap hP
  have hD := va_D_swap hD
  refine lv_iload hx hb dL_law_1292 (lv_at hl 1 rfl) ?_
  refine lv_icmp_eq (tgt := 1299) hx hb dL_law_1294 (by decide) (fun c9 => ?_) (fun c9 => ?_)
  · skip
    refine lv_iload hx hb dL_law_1299 (lv_at hl 1 rfl) ?_
    refine lv_if_ne (tgt := 1316) hx hb dL_law_1301 (by decide) (fun c9 => ?_) (fun c9 => ?_)
    · skip
      refine lv_goto (tgt := 2834) hx hb dL_law_1316 (by decide) ?_
      exact kn w1 m1 H locs ls hI1 hP hD hS (lv_sub hl [2, 3, 4, 5, 6, 7] rfl)
    · skip
      obtain ⟨f, h47, hf⟩ := hko c9
      refine lv_aload_n hx hb dL_law_1304 rfl (lv_at hl 5 rfl) ?_
      refine lv_iconst (v := 0) hx hb dL_law_1305 (by decide) ?_
      refine z_top (y := nI 0) rfl ?_
      refine va_lald hx hb hK hP 47 3 (z_inl h47) rfl (vp_in_nI (n := 0) (by decide) (by decide)) dL_law_1306 ?_
      rw [show f (nI 0).toNatClampNeg = _ from hf]
      refine lv_iload hx hb dL_law_1307 (lv_at hl 0 rfl) ?_
      refine lv_i2l hx hb dL_law_1309 rfl ?_
      refine W.lcmp hx hb dL_law_1310 ?_
      refine z_top (y := 0) (lg_cmp_rf rfl) ?_
      refine lv_if_eq (tgt := 1316) hx hb dL_law_1311 (by decide) (fun c9 => ?_) (fun c9 => ?_)
      · skip
        refine lv_goto (tgt := 2834) hx hb dL_law_1316 (by decide) ?_
        exact kn w1 m1 H locs ls hI1 hP hD hS (lv_sub hl [2, 3, 4, 5, 6, 7] rfl)
      · exact absurd rfl c9
  · exact absurd rfl c9

set_option maxHeartbeats 4000000 in
set_option maxRecDepth 100000 in
/-- clearPattern -/
theorem law_21 {G : zG} (hg : zGW G) {l : Launch} {D : va_G} {cy : Nat → ClassId} {I : va_W → va_W → Prop} {x0 x9 ow od b L : Nat} {xs : Nat → Int32} {p : Program} {e : Env} {s : State} {m : MethodId} {args : Array Value} {below : List Frame} {meth : Method} {c : Code} {H : Heap} {locs : List Loc} {cells slots : Nat} {Q : State → Prop} (hx : p.tables.exec = Jvm.exec) (hb : c.code = cL_law) (hml : c.maxLocals = 9) (hown : s.vm.findClass RL = some m.cls) (hts : ∀ w ∈ wsL_law, w.before args s = true) (hG : G (fun q => s.heap.size ≤ q) s) (hK : va_K D vwCl (zT cy) s) (hX : va_X b L xs s s.heap) (hbl : b < s.heap.size) {w mw : va_W} {i : Nat} (hi : i + 2 < L) (hL : L ≤ 1536) (hI : I w mw) (hhd : ∀ w m, I w m → zHd x0 x9 w m) (hP : va_P D vwCl (w ++ mw) H) (hD : va_D (fun q => s.heap.size ≤ q) (w ++ mw)) (hS : va_S (fun q => s.heap.size ≤ q) s.heap H locs) (ls : Array Slot) (hl : lv_has ls 9 [(0, .ref b), (1, .ref x0), (2, .ref x9), (3, .ref ow), (4, .ref od), (5, .int (nI i))]) (hrc : cells + 2 ≤ 603072) (hrs : slots + 96 ≤ 7202922) (harm : zArmD G D cy l I yX5_clearPattern wsX5_clearPattern [.ref x0] yX6_clearPattern wsX6_clearPattern [.ref x9] w mw) (kn : ∀ (w' m' : va_W) (H1 : Heap) (locs1 : List Loc) (ls1 : Array Slot), I w' m' → va_P D vwCl (w' ++ m') H1 → va_D (fun q => s.heap.size ≤ q) (w' ++ m') → va_S (fun q => s.heap.size ≤ q) s.heap H1 locs1 → lv_has ls1 9 [(0, .ref b), (1, .ref x0), (2, .ref x9), (3, .ref ow), (4, .ref od), (5, .int (nI i))] → W p l e room_1 s m args below meth c H1 locs1 (cells + 2) (slots + 96) Q (F0 m 2834 ls1 [])) : W p l e room_1 s m args below meth c H locs cells slots Q (F0 m 1319 ls []) := by
  refine lv_aload_n hx hb dL_law_1319 rfl (lv_at hl 1 rfl) ?_
  obtain ⟨Φ, Ψ, hM1, hM2, hpure⟩ := harm
  obtain ⟨⟨fs0, e0⟩, fs9, e9⟩ := hhd _ _ hI
  refine zlV (ci := 9) (As := []) (rest := []) 0 hg.1.1.1.1.1 ⟨hx, hb, hml, hown, hts⟩ hM1 (cwV 0 hts gL_law_X5_clearPattern rfl rfl rfl (by decide +kernel) ⟨Nat.le_of_ble_eq_true rfl, Nat.le_of_ble_eq_true rfl⟩) hG hK hP hD hS (fun _ h => h) rfl e0 rfl hl.1 rfl (Nat.le_of_ble_eq_true rfl) dL_law_1320 ⟨hrc, hrs⟩ (fun w1 o1 H locs h1 hP hD hS => ?_)
  obtain ⟨k, rfl, h1⟩ := h1
  have hP := va_P_swap hP
  have hD := va_D_swap hD
  refine lv_aload_n hx hb dL_law_1323 rfl (lv_at hl 2 rfl) ?_
  refine zlV (ci := 10) (As := []) (rest := [.int k]) 0 hg.1.1.1.1.1 ⟨hx, hb, hml, hown, hts⟩ hM2 (cwV 0 hts gL_law_X6_clearPattern rfl rfl rfl (by decide +kernel) ⟨Nat.le_of_ble_eq_true rfl, Nat.le_of_ble_eq_true rfl⟩) hG hK hP hD hS (fun _ h => h) rfl e9 rfl hl.1 rfl (Nat.le_of_ble_eq_true rfl) dL_law_1324 ⟨hrc, hrs⟩ (fun m1 o2 H locs h2 hP hD hS => ?_)
  obtain ⟨bb, rfl, h2⟩ := h2
  obtain ⟨hkb, hI1⟩ := hpure w1 k m1 bb h1 h2
  have hP := va_P_swap hP
  have hD := va_D_swap hD
  refine lv_icmp_eq (tgt := 2834) hx hb dL_law_1327 (by decide) (fun c9 => ?_) (fun c9 => ?_)
  · skip
    exact kn w1 m1 H locs ls hI1 hP hD hS (lv_sub hl [0, 1, 2, 3, 4, 5] rfl)
  · exact absurd hkb c9

set_option maxHeartbeats 4000000 in
set_option maxRecDepth 100000 in
/-- yarnIn -/
theorem law_22 {G : zG} (hg : zGW G) {l : Launch} {D : va_G} {cy : Nat → ClassId} {I : va_W → va_W → Prop} {x0 x9 ow od b L : Nat} {xs : Nat → Int32} {p : Program} {e : Env} {s : State} {m : MethodId} {args : Array Value} {below : List Frame} {meth : Method} {c : Code} {H : Heap} {locs : List Loc} {cells slots : Nat} {Q : State → Prop} (hx : p.tables.exec = Jvm.exec) (hb : c.code = cL_law) (hml : c.maxLocals = 9) (hown : s.vm.findClass RL = some m.cls) (hts : ∀ w ∈ wsL_law, w.before args s = true) (hG : G (fun q => s.heap.size ≤ q) s) (hK : va_K D vwCl (zT cy) s) (hX : va_X b L xs s s.heap) (hbl : b < s.heap.size) {w mw : va_W} {i : Nat} (hi : i + 2 < L) (hL : L ≤ 1536) (hI : I w mw) (hhd : ∀ w m, I w m → zHd x0 x9 w m) (hP : va_P D vwCl (w ++ mw) H) (hD : va_D (fun q => s.heap.size ≤ q) (w ++ mw)) (hS : va_S (fun q => s.heap.size ≤ q) s.heap H locs) (ls : Array Slot) (hl : lv_has ls 9 [(0, .ref b), (1, .ref x0), (2, .ref x9), (3, .ref ow), (4, .ref od), (5, .int (nI i))]) (hrc : cells + 2 ≤ 603072) (hrs : slots + 96 ≤ 7202922) (harm : zArmS G D cy l I x9 yL_yarnIn wsL_yarnIn [.ref x0, .int (xs (i + 1)), .ref ow] yX6_yarnIn wsX6_yarnIn [.ref x9, .int (xs (i + 1))] (fun w' b => zOut ow cy w' b.toInt64) w mw) (kn : ∀ (w' m' : va_W) (H1 : Heap) (locs1 : List Loc) (ls1 : Array Slot), I w' m' → va_P D vwCl (w' ++ m') H1 → va_D (fun q => s.heap.size ≤ q) (w' ++ m') → va_S (fun q => s.heap.size ≤ q) s.heap H1 locs1 → lv_has ls1 9 [(0, .ref b), (1, .ref x0), (2, .ref x9), (3, .ref ow), (4, .ref od), (5, .int (nI i))] → W p l e room_1 s m args below meth c H1 locs1 (cells + 2) (slots + 96) Q (F0 m 2834 ls1 [])) : W p l e room_1 s m args below meth c H locs cells slots Q (F0 m 1332 ls []) := by
  refine lv_aload_n hx hb dL_law_1332 rfl (lv_at hl 1 rfl) ?_
  refine lv_aload_n hx hb dL_law_1333 rfl (lv_at hl 0 rfl) ?_
  refine lv_iload hx hb dL_law_1334 (lv_at hl 5 rfl) ?_
  refine lv_iconst (v := 1) hx hb dL_law_1336 (by decide) ?_
  refine lv_iadd hx hb dL_law_1337 ?_
  refine z_top (y := nI (i + 1)) (nI_add i 1) ?_
  refine va_sld hx hb hX hbl (Nat.not_le.mpr hbl) hS (vp_in_nI (n := i + 1) (by omega) (by omega)) dL_law_1338 ?_
  refine z_top (y := xs (i + 1)) (by rw [nI_clamp (by omega)]) ?_
  refine lv_aload_n hx hb dL_law_1339 rfl (lv_at hl 3 rfl) ?_
  obtain ⟨Φ, Ψ, hM1, hM2, hpure⟩ := harm
  refine zlS (As := [.ref x0, .int (xs (i + 1)), .ref ow]) (rest := []) (hh := [(0, 9, 12, 13)]) hg.1.1.1.1.1 ⟨hx, hb, hml, hown, hts⟩ hM1 (vx_cwSW 3 hts gL_law_L_yarnIn rfl rfl rfl (by decide +kernel) ⟨Nat.le_of_ble_eq_true rfl, Nat.le_of_ble_eq_true rfl⟩) hG hK hP hD hS (fun _ h => h) rfl hl.1 rfl (Nat.le_of_ble_eq_true rfl) dL_law_1340 ⟨hrc, hrs⟩ (fun w1 o1 H locs h1 hP hD hS => ?_)
  obtain ⟨k, rfl, h1⟩ := h1
  have hP := va_P_swap hP
  have hD := va_D_swap hD
  refine lv_istore (lv' := [(6, .int k), (0, .ref b), (1, .ref x0), (2, .ref x9), (3, .ref ow), (4, .ref od), (5, .int (nI i))]) hx hb dL_law_1343 hl (by decide) rfl (fun ls hl => ?_)
  refine lv_aload_n hx hb dL_law_1345 rfl (lv_at hl 3 rfl) ?_
  refine lv_aload_n hx hb dL_law_1346 rfl (lv_at hl 1 rfl) ?_
  refine lv_iload hx hb dL_law_1347 (lv_at hl 6 rfl) ?_
  refine lv_iconst (v := 1) hx hb dL_law_1349 (by decide) ?_
  refine lv_iadd hx hb dL_law_1350 ?_
  refine z_top (y := nI (i + 1)) (nI_add i 1) ?_
  refine va_sld hx hb hX hbl (Nat.not_le.mpr hbl) hS (vp_in_nI (n := i + 1) (by omega) (by omega)) dL_law_1351 ?_
  refine z_top (y := xs (i + 1)) (by rw [nI_clamp (by omega)]) ?_
  obtain ⟨⟨fs0, e0⟩, fs9, e9⟩ := hhd _ _ hI
  refine zlV (ci := 10) (As := [.int (xs (i + 1))]) (rest := []) 0 hg.1.1.1.1.1 ⟨hx, hb, hml, hown, hts⟩ hM2 (cwV 1 hts gL_law_X6_yarnIn rfl rfl rfl (by decide +kernel) ⟨Nat.le_of_ble_eq_true rfl, Nat.le_of_ble_eq_true rfl⟩) hG hK hP hD hS (fun _ h => h) rfl e9 rfl hl.1 rfl (Nat.le_of_ble_eq_true rfl) dL_law_1352 ⟨hrc, hrs⟩ (fun m1 o2 H locs h2 hP hD hS => ?_)
  obtain ⟨bb, rfl, h2⟩ := h2
  obtain ⟨hth, hko, hI1⟩ := hpure w1 k m1 bb h1 h2
  refine lv_istore (lv' := [(7, .int bb), (6, .int k), (0, .ref b), (1, .ref x0), (2, .ref x9), (3, .ref ow), (4, .ref od), (5, .int (nI i))]) hx hb dL_law_1355 hl (by decide) rfl (fun ls hl => ?_)
  refine lv_aload_n hx hb dL_law_1357 rfl (lv_at hl 4 rfl) ?_
  obtain ⟨⟨fs1, e1⟩, fs2, e2⟩ := hhd _ _ hI1
  refine zlV (ci := 10) (As := []) (rest := []) 0 hg.1.1.1.1.1 ⟨hx, hb, hml, hown, hts⟩ hth (cwV 0 hts gL_law_X6_thrown rfl rfl rfl (by decide +kernel) ⟨Nat.le_of_ble_eq_true rfl, Nat.le_of_ble_eq_true rfl⟩) hG hK hP hD hS (fun _ h => h) rfl e2 rfl hl.1 rfl (Nat.le_of_ble_eq_true rfl) dL_law_1358 ⟨hrc, hrs⟩ (fun m2 o3 H locs h3 hP hD hS => ?_)
  obtain ⟨em, rfl⟩ := h3
  rw [em] at hP hD
  have hP := va_P_swap hP
  have hD := va_D_swap hD
  refine lv_iload hx hb dL_law_1361 (lv_at hl 1 rfl) ?_
  refine lv_icmp_eq (tgt := 1368) hx hb dL_law_1363 (by decide) (fun c9 => ?_) (fun c9 => ?_)
  · skip
    refine lv_iload hx hb dL_law_1368 (lv_at hl 1 rfl) ?_
    refine lv_if_ne (tgt := 1385) hx hb dL_law_1370 (by decide) (fun c9 => ?_) (fun c9 => ?_)
    · skip
      refine lv_goto (tgt := 2834) hx hb dL_law_1385 (by decide) ?_
      exact kn w1 m1 H locs ls hI1 hP hD hS (lv_sub hl [2, 3, 4, 5, 6, 7] rfl)
    · skip
      obtain ⟨f, h47, hf⟩ := hko c9
      refine lv_aload_n hx hb dL_law_1373 rfl (lv_at hl 5 rfl) ?_
      refine lv_iconst (v := 0) hx hb dL_law_1374 (by decide) ?_
      refine z_top (y := nI 0) rfl ?_
      refine va_lald hx hb hK hP 47 3 (z_inl h47) rfl (vp_in_nI (n := 0) (by decide) (by decide)) dL_law_1375 ?_
      rw [show f (nI 0).toNatClampNeg = _ from hf]
      refine lv_iload hx hb dL_law_1376 (lv_at hl 0 rfl) ?_
      refine lv_i2l hx hb dL_law_1378 rfl ?_
      refine W.lcmp hx hb dL_law_1379 ?_
      refine z_top (y := 0) (lg_cmp_rf rfl) ?_
      refine lv_if_eq (tgt := 1385) hx hb dL_law_1380 (by decide) (fun c9 => ?_) (fun c9 => ?_)
      · skip
        refine lv_goto (tgt := 2834) hx hb dL_law_1385 (by decide) ?_
        exact kn w1 m1 H locs ls hI1 hP hD hS (lv_sub hl [2, 3, 4, 5, 6, 7] rfl)
      · exact absurd rfl c9
  · exact absurd rfl c9

set_option maxHeartbeats 4000000 in
set_option maxRecDepth 100000 in
/-- activeFeeder -/
theorem law_23 {G : zG} (hg : zGW G) {l : Launch} {D : va_G} {cy : Nat → ClassId} {I : va_W → va_W → Prop} {x0 x9 ow od b L : Nat} {xs : Nat → Int32} {p : Program} {e : Env} {s : State} {m : MethodId} {args : Array Value} {below : List Frame} {meth : Method} {c : Code} {H : Heap} {locs : List Loc} {cells slots : Nat} {Q : State → Prop} (hx : p.tables.exec = Jvm.exec) (hb : c.code = cL_law) (hml : c.maxLocals = 9) (hown : s.vm.findClass RL = some m.cls) (hts : ∀ w ∈ wsL_law, w.before args s = true) (hG : G (fun q => s.heap.size ≤ q) s) (hK : va_K D vwCl (zT cy) s) (hX : va_X b L xs s s.heap) (hbl : b < s.heap.size) {w mw : va_W} {i : Nat} (hi : i + 2 < L) (hL : L ≤ 1536) (hI : I w mw) (hhd : ∀ w m, I w m → zHd x0 x9 w m) (hP : va_P D vwCl (w ++ mw) H) (hD : va_D (fun q => s.heap.size ≤ q) (w ++ mw)) (hS : va_S (fun q => s.heap.size ≤ q) s.heap H locs) (ls : Array Slot) (hl : lv_has ls 9 [(0, .ref b), (1, .ref x0), (2, .ref x9), (3, .ref ow), (4, .ref od), (5, .int (nI i))]) (hrc : cells + 2 ≤ 603072) (hrs : slots + 96 ≤ 7202922) (harm : zArmD G D cy l I yX5_activeFeeder wsX5_activeFeeder [.ref x0] yX6_activeFeeder wsX6_activeFeeder [.ref x9] w mw) (kn : ∀ (w' m' : va_W) (H1 : Heap) (locs1 : List Loc) (ls1 : Array Slot), I w' m' → va_P D vwCl (w' ++ m') H1 → va_D (fun q => s.heap.size ≤ q) (w' ++ m') → va_S (fun q => s.heap.size ≤ q) s.heap H1 locs1 → lv_has ls1 9 [(0, .ref b), (1, .ref x0), (2, .ref x9), (3, .ref ow), (4, .ref od), (5, .int (nI i))] → W p l e room_1 s m args below meth c H1 locs1 (cells + 2) (slots + 96) Q (F0 m 2834 ls1 [])) : W p l e room_1 s m args below meth c H locs cells slots Q (F0 m 1388 ls []) := by
  refine lv_aload_n hx hb dL_law_1388 rfl (lv_at hl 1 rfl) ?_
  obtain ⟨Φ, Ψ, hM1, hM2, hpure⟩ := harm
  obtain ⟨⟨fs0, e0⟩, fs9, e9⟩ := hhd _ _ hI
  refine zlV (ci := 9) (As := []) (rest := []) 0 hg.1.1.1.1.1 ⟨hx, hb, hml, hown, hts⟩ hM1 (cwV 0 hts gL_law_X5_activeFeeder rfl rfl rfl (by decide +kernel) ⟨Nat.le_of_ble_eq_true rfl, Nat.le_of_ble_eq_true rfl⟩) hG hK hP hD hS (fun _ h => h) rfl e0 rfl hl.1 rfl (Nat.le_of_ble_eq_true rfl) dL_law_1389 ⟨hrc, hrs⟩ (fun w1 o1 H locs h1 hP hD hS => ?_)
  obtain ⟨k, rfl, h1⟩ := h1
  have hP := va_P_swap hP
  have hD := va_D_swap hD
  refine lv_aload_n hx hb dL_law_1392 rfl (lv_at hl 2 rfl) ?_
  refine zlV (ci := 10) (As := []) (rest := [.int k]) 0 hg.1.1.1.1.1 ⟨hx, hb, hml, hown, hts⟩ hM2 (cwV 0 hts gL_law_X6_activeFeeder rfl rfl rfl (by decide +kernel) ⟨Nat.le_of_ble_eq_true rfl, Nat.le_of_ble_eq_true rfl⟩) hG hK hP hD hS (fun _ h => h) rfl e9 rfl hl.1 rfl (Nat.le_of_ble_eq_true rfl) dL_law_1393 ⟨hrc, hrs⟩ (fun m1 o2 H locs h2 hP hD hS => ?_)
  obtain ⟨bb, rfl, h2⟩ := h2
  obtain ⟨hkb, hI1⟩ := hpure w1 k m1 bb h1 h2
  have hP := va_P_swap hP
  have hD := va_D_swap hD
  refine lv_icmp_eq (tgt := 2834) hx hb dL_law_1396 (by decide) (fun c9 => ?_) (fun c9 => ?_)
  · skip
    exact kn w1 m1 H locs ls hI1 hP hD hS (lv_sub hl [0, 1, 2, 3, 4, 5] rfl)
  · exact absurd hkb c9

set_option maxHeartbeats 4000000 in
set_option maxRecDepth 100000 in
/-- tension -/
theorem law_24 {G : zG} (hg : zGW G) {l : Launch} {D : va_G} {cy : Nat → ClassId} {I : va_W → va_W → Prop} {x0 x9 ow od b L : Nat} {xs : Nat → Int32} {p : Program} {e : Env} {s : State} {m : MethodId} {args : Array Value} {below : List Frame} {meth : Method} {c : Code} {H : Heap} {locs : List Loc} {cells slots : Nat} {Q : State → Prop} (hx : p.tables.exec = Jvm.exec) (hb : c.code = cL_law) (hml : c.maxLocals = 9) (hown : s.vm.findClass RL = some m.cls) (hts : ∀ w ∈ wsL_law, w.before args s = true) (hG : G (fun q => s.heap.size ≤ q) s) (hK : va_K D vwCl (zT cy) s) (hX : va_X b L xs s s.heap) (hbl : b < s.heap.size) {w mw : va_W} {i : Nat} (hi : i + 2 < L) (hL : L ≤ 1536) (hI : I w mw) (hhd : ∀ w m, I w m → zHd x0 x9 w m) (hP : va_P D vwCl (w ++ mw) H) (hD : va_D (fun q => s.heap.size ≤ q) (w ++ mw)) (hS : va_S (fun q => s.heap.size ≤ q) s.heap H locs) (ls : Array Slot) (hl : lv_has ls 9 [(0, .ref b), (1, .ref x0), (2, .ref x9), (3, .ref ow), (4, .ref od), (5, .int (nI i))]) (hrc : cells + 2 ≤ 603072) (hrs : slots + 96 ≤ 7202922) (harm : zArmD G D cy l I yX5_tension wsX5_tension [.ref x0] yX6_tension wsX6_tension [.ref x9] w mw) (kn : ∀ (w' m' : va_W) (H1 : Heap) (locs1 : List Loc) (ls1 : Array Slot), I w' m' → va_P D vwCl (w' ++ m') H1 → va_D (fun q => s.heap.size ≤ q) (w' ++ m') → va_S (fun q => s.heap.size ≤ q) s.heap H1 locs1 → lv_has ls1 9 [(0, .ref b), (1, .ref x0), (2, .ref x9), (3, .ref ow), (4, .ref od), (5, .int (nI i))] → W p l e room_1 s m args below meth c H1 locs1 (cells + 2) (slots + 96) Q (F0 m 2834 ls1 [])) : W p l e room_1 s m args below meth c H locs cells slots Q (F0 m 1401 ls []) := by
  refine lv_aload_n hx hb dL_law_1401 rfl (lv_at hl 1 rfl) ?_
  obtain ⟨Φ, Ψ, hM1, hM2, hpure⟩ := harm
  obtain ⟨⟨fs0, e0⟩, fs9, e9⟩ := hhd _ _ hI
  refine zlV (ci := 9) (As := []) (rest := []) 0 hg.1.1.1.1.1 ⟨hx, hb, hml, hown, hts⟩ hM1 (cwV 0 hts gL_law_X5_tension rfl rfl rfl (by decide +kernel) ⟨Nat.le_of_ble_eq_true rfl, Nat.le_of_ble_eq_true rfl⟩) hG hK hP hD hS (fun _ h => h) rfl e0 rfl hl.1 rfl (Nat.le_of_ble_eq_true rfl) dL_law_1402 ⟨hrc, hrs⟩ (fun w1 o1 H locs h1 hP hD hS => ?_)
  obtain ⟨k, rfl, h1⟩ := h1
  have hP := va_P_swap hP
  have hD := va_D_swap hD
  refine lv_aload_n hx hb dL_law_1405 rfl (lv_at hl 2 rfl) ?_
  refine zlV (ci := 10) (As := []) (rest := [.int k]) 0 hg.1.1.1.1.1 ⟨hx, hb, hml, hown, hts⟩ hM2 (cwV 0 hts gL_law_X6_tension rfl rfl rfl (by decide +kernel) ⟨Nat.le_of_ble_eq_true rfl, Nat.le_of_ble_eq_true rfl⟩) hG hK hP hD hS (fun _ h => h) rfl e9 rfl hl.1 rfl (Nat.le_of_ble_eq_true rfl) dL_law_1406 ⟨hrc, hrs⟩ (fun m1 o2 H locs h2 hP hD hS => ?_)
  obtain ⟨bb, rfl, h2⟩ := h2
  obtain ⟨hkb, hI1⟩ := hpure w1 k m1 bb h1 h2
  have hP := va_P_swap hP
  have hD := va_D_swap hD
  refine lv_icmp_eq (tgt := 2834) hx hb dL_law_1409 (by decide) (fun c9 => ?_) (fun c9 => ?_)
  · skip
    exact kn w1 m1 H locs ls hI1 hP hD hS (lv_sub hl [0, 1, 2, 3, 4, 5] rfl)
  · exact absurd hkb c9

set_option maxHeartbeats 4000000 in
set_option maxRecDepth 100000 in
/-- patternRows -/
theorem law_25 {G : zG} (hg : zGW G) {l : Launch} {D : va_G} {cy : Nat → ClassId} {I : va_W → va_W → Prop} {x0 x9 ow od b L : Nat} {xs : Nat → Int32} {p : Program} {e : Env} {s : State} {m : MethodId} {args : Array Value} {below : List Frame} {meth : Method} {c : Code} {H : Heap} {locs : List Loc} {cells slots : Nat} {Q : State → Prop} (hx : p.tables.exec = Jvm.exec) (hb : c.code = cL_law) (hml : c.maxLocals = 9) (hown : s.vm.findClass RL = some m.cls) (hts : ∀ w ∈ wsL_law, w.before args s = true) (hG : G (fun q => s.heap.size ≤ q) s) (hK : va_K D vwCl (zT cy) s) (hX : va_X b L xs s s.heap) (hbl : b < s.heap.size) {w mw : va_W} {i : Nat} (hi : i + 2 < L) (hL : L ≤ 1536) (hI : I w mw) (hhd : ∀ w m, I w m → zHd x0 x9 w m) (hP : va_P D vwCl (w ++ mw) H) (hD : va_D (fun q => s.heap.size ≤ q) (w ++ mw)) (hS : va_S (fun q => s.heap.size ≤ q) s.heap H locs) (ls : Array Slot) (hl : lv_has ls 9 [(0, .ref b), (1, .ref x0), (2, .ref x9), (3, .ref ow), (4, .ref od), (5, .int (nI i))]) (hrc : cells + 2 ≤ 603072) (hrs : slots + 96 ≤ 7202922) (harm : zArmD G D cy l I yX5_patternRows wsX5_patternRows [.ref x0] yX6_patternRows wsX6_patternRows [.ref x9] w mw) (kn : ∀ (w' m' : va_W) (H1 : Heap) (locs1 : List Loc) (ls1 : Array Slot), I w' m' → va_P D vwCl (w' ++ m') H1 → va_D (fun q => s.heap.size ≤ q) (w' ++ m') → va_S (fun q => s.heap.size ≤ q) s.heap H1 locs1 → lv_has ls1 9 [(0, .ref b), (1, .ref x0), (2, .ref x9), (3, .ref ow), (4, .ref od), (5, .int (nI i))] → W p l e room_1 s m args below meth c H1 locs1 (cells + 2) (slots + 96) Q (F0 m 2834 ls1 [])) : W p l e room_1 s m args below meth c H locs cells slots Q (F0 m 1414 ls []) := by
  refine lv_aload_n hx hb dL_law_1414 rfl (lv_at hl 1 rfl) ?_
  obtain ⟨Φ, Ψ, hM1, hM2, hpure⟩ := harm
  obtain ⟨⟨fs0, e0⟩, fs9, e9⟩ := hhd _ _ hI
  refine zlV (ci := 9) (As := []) (rest := []) 0 hg.1.1.1.1.1 ⟨hx, hb, hml, hown, hts⟩ hM1 (cwV 0 hts gL_law_X5_patternRows rfl rfl rfl (by decide +kernel) ⟨Nat.le_of_ble_eq_true rfl, Nat.le_of_ble_eq_true rfl⟩) hG hK hP hD hS (fun _ h => h) rfl e0 rfl hl.1 rfl (Nat.le_of_ble_eq_true rfl) dL_law_1415 ⟨hrc, hrs⟩ (fun w1 o1 H locs h1 hP hD hS => ?_)
  obtain ⟨k, rfl, h1⟩ := h1
  have hP := va_P_swap hP
  have hD := va_D_swap hD
  refine lv_aload_n hx hb dL_law_1418 rfl (lv_at hl 2 rfl) ?_
  refine zlV (ci := 10) (As := []) (rest := [.int k]) 0 hg.1.1.1.1.1 ⟨hx, hb, hml, hown, hts⟩ hM2 (cwV 0 hts gL_law_X6_patternRows rfl rfl rfl (by decide +kernel) ⟨Nat.le_of_ble_eq_true rfl, Nat.le_of_ble_eq_true rfl⟩) hG hK hP hD hS (fun _ h => h) rfl e9 rfl hl.1 rfl (Nat.le_of_ble_eq_true rfl) dL_law_1419 ⟨hrc, hrs⟩ (fun m1 o2 H locs h2 hP hD hS => ?_)
  obtain ⟨bb, rfl, h2⟩ := h2
  obtain ⟨hkb, hI1⟩ := hpure w1 k m1 bb h1 h2
  have hP := va_P_swap hP
  have hD := va_D_swap hD
  refine lv_icmp_eq (tgt := 2834) hx hb dL_law_1422 (by decide) (fun c9 => ?_) (fun c9 => ?_)
  · skip
    exact kn w1 m1 H locs ls hI1 hP hD hS (lv_sub hl [0, 1, 2, 3, 4, 5] rfl)
  · exact absurd hkb c9

set_option maxHeartbeats 4000000 in
set_option maxRecDepth 100000 in
/-- isKnit -/
theorem law_26 {G : zG} (hg : zGW G) {l : Launch} {D : va_G} {cy : Nat → ClassId} {I : va_W → va_W → Prop} {x0 x9 ow od b L : Nat} {xs : Nat → Int32} {p : Program} {e : Env} {s : State} {m : MethodId} {args : Array Value} {below : List Frame} {meth : Method} {c : Code} {H : Heap} {locs : List Loc} {cells slots : Nat} {Q : State → Prop} (hx : p.tables.exec = Jvm.exec) (hb : c.code = cL_law) (hml : c.maxLocals = 9) (hown : s.vm.findClass RL = some m.cls) (hts : ∀ w ∈ wsL_law, w.before args s = true) (hG : G (fun q => s.heap.size ≤ q) s) (hK : va_K D vwCl (zT cy) s) (hX : va_X b L xs s s.heap) (hbl : b < s.heap.size) {w mw : va_W} {i : Nat} (hi : i + 2 < L) (hL : L ≤ 1536) (hI : I w mw) (hhd : ∀ w m, I w m → zHd x0 x9 w m) (hP : va_P D vwCl (w ++ mw) H) (hD : va_D (fun q => s.heap.size ≤ q) (w ++ mw)) (hS : va_S (fun q => s.heap.size ≤ q) s.heap H locs) (ls : Array Slot) (hl : lv_has ls 9 [(0, .ref b), (1, .ref x0), (2, .ref x9), (3, .ref ow), (4, .ref od), (5, .int (nI i))]) (hrc : cells + 2 ≤ 603072) (hrs : slots + 96 ≤ 7202922) (harm : zArmS G D cy l I x9 yL_isKnit wsL_isKnit [.ref x0, .int (xs (i + 1)), .int (xs (i + 2)), .ref ow] yX6_isKnit wsX6_isKnit [.ref x9, .int (xs (i + 1)), .int (xs (i + 2))] (fun w' b => zOut ow cy w' (if b = 0 then 0 else 1)) w mw) (kn : ∀ (w' m' : va_W) (H1 : Heap) (locs1 : List Loc) (ls1 : Array Slot), I w' m' → va_P D vwCl (w' ++ m') H1 → va_D (fun q => s.heap.size ≤ q) (w' ++ m') → va_S (fun q => s.heap.size ≤ q) s.heap H1 locs1 → lv_has ls1 9 [(0, .ref b), (1, .ref x0), (2, .ref x9), (3, .ref ow), (4, .ref od), (5, .int (nI i))] → W p l e room_1 s m args below meth c H1 locs1 (cells + 2) (slots + 96) Q (F0 m 2834 ls1 [])) : W p l e room_1 s m args below meth c H locs cells slots Q (F0 m 1427 ls []) := by
  refine lv_aload_n hx hb dL_law_1427 rfl (lv_at hl 1 rfl) ?_
  refine lv_aload_n hx hb dL_law_1428 rfl (lv_at hl 0 rfl) ?_
  refine lv_iload hx hb dL_law_1429 (lv_at hl 5 rfl) ?_
  refine lv_iconst (v := 1) hx hb dL_law_1431 (by decide) ?_
  refine lv_iadd hx hb dL_law_1432 ?_
  refine z_top (y := nI (i + 1)) (nI_add i 1) ?_
  refine va_sld hx hb hX hbl (Nat.not_le.mpr hbl) hS (vp_in_nI (n := i + 1) (by omega) (by omega)) dL_law_1433 ?_
  refine z_top (y := xs (i + 1)) (by rw [nI_clamp (by omega)]) ?_
  refine lv_aload_n hx hb dL_law_1434 rfl (lv_at hl 0 rfl) ?_
  refine lv_iload hx hb dL_law_1435 (lv_at hl 5 rfl) ?_
  refine lv_iconst (v := 2) hx hb dL_law_1437 (by decide) ?_
  refine lv_iadd hx hb dL_law_1438 ?_
  refine z_top (y := nI (i + 2)) (nI_add i 2) ?_
  refine va_sld hx hb hX hbl (Nat.not_le.mpr hbl) hS (vp_in_nI (n := i + 2) (by omega) (by omega)) dL_law_1439 ?_
  refine z_top (y := xs (i + 2)) (by rw [nI_clamp (by omega)]) ?_
  refine lv_aload_n hx hb dL_law_1440 rfl (lv_at hl 3 rfl) ?_
  obtain ⟨Φ, Ψ, hM1, hM2, hpure⟩ := harm
  refine zlS (As := [.ref x0, .int (xs (i + 1)), .int (xs (i + 2)), .ref ow]) (rest := []) (hh := [(0, 17, 20, 13)]) hg.1.1.1.1.1 ⟨hx, hb, hml, hown, hts⟩ hM1 (vx_cwSW 4 hts gL_law_L_isKnit rfl rfl rfl (by decide +kernel) ⟨Nat.le_of_ble_eq_true rfl, Nat.le_of_ble_eq_true rfl⟩) hG hK hP hD hS (fun _ h => h) rfl hl.1 rfl (Nat.le_of_ble_eq_true rfl) dL_law_1441 ⟨hrc, hrs⟩ (fun w1 o1 H locs h1 hP hD hS => ?_)
  obtain ⟨k, rfl, h1⟩ := h1
  have hP := va_P_swap hP
  have hD := va_D_swap hD
  refine lv_istore (lv' := [(6, .int k), (0, .ref b), (1, .ref x0), (2, .ref x9), (3, .ref ow), (4, .ref od), (5, .int (nI i))]) hx hb dL_law_1444 hl (by decide) rfl (fun ls hl => ?_)
  refine lv_aload_n hx hb dL_law_1446 rfl (lv_at hl 3 rfl) ?_
  refine lv_aload_n hx hb dL_law_1447 rfl (lv_at hl 1 rfl) ?_
  refine lv_iload hx hb dL_law_1448 (lv_at hl 6 rfl) ?_
  refine lv_iconst (v := 1) hx hb dL_law_1450 (by decide) ?_
  refine lv_iadd hx hb dL_law_1451 ?_
  refine z_top (y := nI (i + 1)) (nI_add i 1) ?_
  refine va_sld hx hb hX hbl (Nat.not_le.mpr hbl) hS (vp_in_nI (n := i + 1) (by omega) (by omega)) dL_law_1452 ?_
  refine z_top (y := xs (i + 1)) (by rw [nI_clamp (by omega)]) ?_
  refine lv_aload_n hx hb dL_law_1453 rfl (lv_at hl 1 rfl) ?_
  refine lv_iload hx hb dL_law_1454 (lv_at hl 6 rfl) ?_
  refine lv_iconst (v := 2) hx hb dL_law_1456 (by decide) ?_
  refine lv_iadd hx hb dL_law_1457 ?_
  refine z_top (y := nI (i + 2)) (nI_add i 2) ?_
  refine va_sld hx hb hX hbl (Nat.not_le.mpr hbl) hS (vp_in_nI (n := i + 2) (by omega) (by omega)) dL_law_1458 ?_
  refine z_top (y := xs (i + 2)) (by rw [nI_clamp (by omega)]) ?_
  obtain ⟨⟨fs0, e0⟩, fs9, e9⟩ := hhd _ _ hI
  refine zlV (ci := 10) (As := [.int (xs (i + 1)), .int (xs (i + 2))]) (rest := []) 0 hg.1.1.1.1.1 ⟨hx, hb, hml, hown, hts⟩ hM2 (cwV 2 hts gL_law_X6_isKnit rfl rfl rfl (by decide +kernel) ⟨Nat.le_of_ble_eq_true rfl, Nat.le_of_ble_eq_true rfl⟩) hG hK hP hD hS (fun _ h => h) rfl e9 rfl hl.1 rfl (Nat.le_of_ble_eq_true rfl) dL_law_1459 ⟨hrc, hrs⟩ (fun m1 o2 H locs h2 hP hD hS => ?_)
  obtain ⟨bb, rfl, h2⟩ := h2
  obtain ⟨hth, hko, hI1⟩ := hpure w1 k m1 bb h1 h2
  refine lv_istore (lv' := [(7, .int bb), (6, .int k), (0, .ref b), (1, .ref x0), (2, .ref x9), (3, .ref ow), (4, .ref od), (5, .int (nI i))]) hx hb dL_law_1462 hl (by decide) rfl (fun ls hl => ?_)
  refine lv_aload_n hx hb dL_law_1464 rfl (lv_at hl 4 rfl) ?_
  obtain ⟨⟨fs1, e1⟩, fs2, e2⟩ := hhd _ _ hI1
  refine zlV (ci := 10) (As := []) (rest := []) 0 hg.1.1.1.1.1 ⟨hx, hb, hml, hown, hts⟩ hth (cwV 0 hts gL_law_X6_thrown rfl rfl rfl (by decide +kernel) ⟨Nat.le_of_ble_eq_true rfl, Nat.le_of_ble_eq_true rfl⟩) hG hK hP hD hS (fun _ h => h) rfl e2 rfl hl.1 rfl (Nat.le_of_ble_eq_true rfl) dL_law_1465 ⟨hrc, hrs⟩ (fun m2 o3 H locs h3 hP hD hS => ?_)
  obtain ⟨em, rfl⟩ := h3
  rw [em] at hP hD
  have hP := va_P_swap hP
  have hD := va_D_swap hD
  refine lv_iload hx hb dL_law_1468 (lv_at hl 1 rfl) ?_
  refine lv_icmp_eq (tgt := 1475) hx hb dL_law_1470 (by decide) (fun c9 => ?_) (fun c9 => ?_)
  · skip
    refine lv_iload hx hb dL_law_1475 (lv_at hl 1 rfl) ?_
    refine lv_if_ne (tgt := 1499) hx hb dL_law_1477 (by decide) (fun c9 => ?_) (fun c9 => ?_)
    · skip
      refine lv_goto (tgt := 2834) hx hb dL_law_1499 (by decide) ?_
      exact kn w1 m1 H locs ls hI1 hP hD hS (lv_sub hl [2, 3, 4, 5, 6, 7] rfl)
    · skip
      obtain ⟨f, h47, hf⟩ := hko c9
      refine lv_aload_n hx hb dL_law_1480 rfl (lv_at hl 5 rfl) ?_
      refine lv_iconst (v := 0) hx hb dL_law_1481 (by decide) ?_
      refine z_top (y := nI 0) rfl ?_
      refine va_lald hx hb hK hP 47 3 (z_inl h47) rfl (vp_in_nI (n := 0) (by decide) (by decide)) dL_law_1482 ?_
      rw [show f (nI 0).toNatClampNeg = _ from hf]
      refine lv_iload hx hb dL_law_1483 (lv_at hl 0 rfl) ?_
      refine lv_if_eq (tgt := 1492) hx hb dL_law_1485 (by decide) (fun c9 => ?_) (fun c9 => ?_)
      · skip
        refine lv_lconst (v := 0) hx hb dL_law_1492 rfl ?_
        refine W.lcmp hx hb dL_law_1493 ?_
        refine z_top (y := 0) (lg_cmp_rf (by rw [if_pos c9] <;> rfl)) ?_
        refine lv_if_eq (tgt := 1499) hx hb dL_law_1494 (by decide) (fun c9 => ?_) (fun c9 => ?_)
        · skip
          refine lv_goto (tgt := 2834) hx hb dL_law_1499 (by decide) ?_
          exact kn w1 m1 H locs ls hI1 hP hD hS (lv_sub hl [2, 3, 4, 5, 6, 7] rfl)
        · exact absurd rfl c9
      · skip
        refine lv_lconst (v := 1) hx hb dL_law_1488 rfl ?_
        refine lv_goto (tgt := 1493) hx hb dL_law_1489 (by decide) ?_
        refine W.lcmp hx hb dL_law_1493 ?_
        refine z_top (y := 0) (lg_cmp_rf (by rw [if_neg c9] <;> rfl)) ?_
        refine lv_if_eq (tgt := 1499) hx hb dL_law_1494 (by decide) (fun c9 => ?_) (fun c9 => ?_)
        · skip
          refine lv_goto (tgt := 2834) hx hb dL_law_1499 (by decide) ?_
          exact kn w1 m1 H locs ls hI1 hP hD hS (lv_sub hl [2, 3, 4, 5, 6, 7] rfl)
        · exact absurd rfl c9
  · exact absurd rfl c9

set_option maxHeartbeats 4000000 in
set_option maxRecDepth 100000 in
/-- knit -/
theorem law_27 {G : zG} (hg : zGW G) {l : Launch} {D : va_G} {cy : Nat → ClassId} {I : va_W → va_W → Prop} {x0 x9 ow od b L : Nat} {xs : Nat → Int32} {p : Program} {e : Env} {s : State} {m : MethodId} {args : Array Value} {below : List Frame} {meth : Method} {c : Code} {H : Heap} {locs : List Loc} {cells slots : Nat} {Q : State → Prop} (hx : p.tables.exec = Jvm.exec) (hb : c.code = cL_law) (hml : c.maxLocals = 9) (hown : s.vm.findClass RL = some m.cls) (hts : ∀ w ∈ wsL_law, w.before args s = true) (hG : G (fun q => s.heap.size ≤ q) s) (hK : va_K D vwCl (zT cy) s) (hX : va_X b L xs s s.heap) (hbl : b < s.heap.size) {w mw : va_W} {i : Nat} (hi : i + 2 < L) (hL : L ≤ 1536) (hI : I w mw) (hhd : ∀ w m, I w m → zHd x0 x9 w m) (hP : va_P D vwCl (w ++ mw) H) (hD : va_D (fun q => s.heap.size ≤ q) (w ++ mw)) (hS : va_S (fun q => s.heap.size ≤ q) s.heap H locs) (ls : Array Slot) (hl : lv_has ls 9 [(0, .ref b), (1, .ref x0), (2, .ref x9), (3, .ref ow), (4, .ref od), (5, .int (nI i))]) (hrc : cells + 2 ≤ 603072) (hrs : slots + 96 ≤ 7202922) (harm : zArmS G D cy l I x9 yL_knit wsL_knit [.ref x0, .int (xs (i + 1)), .ref ow] yX6_knit wsX6_knit [.ref x9, .int (xs (i + 1))] (fun w' b => zOut ow cy w' b.toInt64) w mw) (kn : ∀ (w' m' : va_W) (H1 : Heap) (locs1 : List Loc) (ls1 : Array Slot), I w' m' → va_P D vwCl (w' ++ m') H1 → va_D (fun q => s.heap.size ≤ q) (w' ++ m') → va_S (fun q => s.heap.size ≤ q) s.heap H1 locs1 → lv_has ls1 9 [(0, .ref b), (1, .ref x0), (2, .ref x9), (3, .ref ow), (4, .ref od), (5, .int (nI i))] → W p l e room_1 s m args below meth c H1 locs1 (cells + 2) (slots + 96) Q (F0 m 2834 ls1 [])) : W p l e room_1 s m args below meth c H locs cells slots Q (F0 m 1502 ls []) := by
  refine lv_aload_n hx hb dL_law_1502 rfl (lv_at hl 1 rfl) ?_
  refine lv_aload_n hx hb dL_law_1503 rfl (lv_at hl 0 rfl) ?_
  refine lv_iload hx hb dL_law_1504 (lv_at hl 5 rfl) ?_
  refine lv_iconst (v := 1) hx hb dL_law_1506 (by decide) ?_
  refine lv_iadd hx hb dL_law_1507 ?_
  refine z_top (y := nI (i + 1)) (nI_add i 1) ?_
  refine va_sld hx hb hX hbl (Nat.not_le.mpr hbl) hS (vp_in_nI (n := i + 1) (by omega) (by omega)) dL_law_1508 ?_
  refine z_top (y := xs (i + 1)) (by rw [nI_clamp (by omega)]) ?_
  refine lv_aload_n hx hb dL_law_1509 rfl (lv_at hl 3 rfl) ?_
  obtain ⟨Φ, Ψ, hM1, hM2, hpure⟩ := harm
  refine zlS (As := [.ref x0, .int (xs (i + 1)), .ref ow]) (rest := []) (hh := [(0, 9, 12, 15), (0, 9, 15, 17)]) hg.1.1.1.1.1 ⟨hx, hb, hml, hown, hts⟩ hM1 (vx_cwSW 3 hts gL_law_L_knit rfl rfl rfl (by decide +kernel) ⟨Nat.le_of_ble_eq_true rfl, Nat.le_of_ble_eq_true rfl⟩) hG hK hP hD hS (fun _ h => h) rfl hl.1 rfl (Nat.le_of_ble_eq_true rfl) dL_law_1510 ⟨hrc, hrs⟩ (fun w1 o1 H locs h1 hP hD hS => ?_)
  obtain ⟨k, rfl, h1⟩ := h1
  have hP := va_P_swap hP
  have hD := va_D_swap hD
  refine lv_istore (lv' := [(6, .int k), (0, .ref b), (1, .ref x0), (2, .ref x9), (3, .ref ow), (4, .ref od), (5, .int (nI i))]) hx hb dL_law_1513 hl (by decide) rfl (fun ls hl => ?_)
  refine lv_aload_n hx hb dL_law_1515 rfl (lv_at hl 3 rfl) ?_
  refine lv_aload_n hx hb dL_law_1516 rfl (lv_at hl 1 rfl) ?_
  refine lv_iload hx hb dL_law_1517 (lv_at hl 6 rfl) ?_
  refine lv_iconst (v := 1) hx hb dL_law_1519 (by decide) ?_
  refine lv_iadd hx hb dL_law_1520 ?_
  refine z_top (y := nI (i + 1)) (nI_add i 1) ?_
  refine va_sld hx hb hX hbl (Nat.not_le.mpr hbl) hS (vp_in_nI (n := i + 1) (by omega) (by omega)) dL_law_1521 ?_
  refine z_top (y := xs (i + 1)) (by rw [nI_clamp (by omega)]) ?_
  obtain ⟨⟨fs0, e0⟩, fs9, e9⟩ := hhd _ _ hI
  refine zlV (ci := 10) (As := [.int (xs (i + 1))]) (rest := []) 0 hg.1.1.1.1.1 ⟨hx, hb, hml, hown, hts⟩ hM2 (cwV 1 hts gL_law_X6_knit rfl rfl rfl (by decide +kernel) ⟨Nat.le_of_ble_eq_true rfl, Nat.le_of_ble_eq_true rfl⟩) hG hK hP hD hS (fun _ h => h) rfl e9 rfl hl.1 rfl (Nat.le_of_ble_eq_true rfl) dL_law_1522 ⟨hrc, hrs⟩ (fun m1 o2 H locs h2 hP hD hS => ?_)
  obtain ⟨bb, rfl, h2⟩ := h2
  obtain ⟨hth, hko, hI1⟩ := hpure w1 k m1 bb h1 h2
  refine lv_istore (lv' := [(7, .int bb), (6, .int k), (0, .ref b), (1, .ref x0), (2, .ref x9), (3, .ref ow), (4, .ref od), (5, .int (nI i))]) hx hb dL_law_1525 hl (by decide) rfl (fun ls hl => ?_)
  refine lv_aload_n hx hb dL_law_1527 rfl (lv_at hl 4 rfl) ?_
  obtain ⟨⟨fs1, e1⟩, fs2, e2⟩ := hhd _ _ hI1
  refine zlV (ci := 10) (As := []) (rest := []) 0 hg.1.1.1.1.1 ⟨hx, hb, hml, hown, hts⟩ hth (cwV 0 hts gL_law_X6_thrown rfl rfl rfl (by decide +kernel) ⟨Nat.le_of_ble_eq_true rfl, Nat.le_of_ble_eq_true rfl⟩) hG hK hP hD hS (fun _ h => h) rfl e2 rfl hl.1 rfl (Nat.le_of_ble_eq_true rfl) dL_law_1528 ⟨hrc, hrs⟩ (fun m2 o3 H locs h3 hP hD hS => ?_)
  obtain ⟨em, rfl⟩ := h3
  rw [em] at hP hD
  have hP := va_P_swap hP
  have hD := va_D_swap hD
  refine lv_iload hx hb dL_law_1531 (lv_at hl 1 rfl) ?_
  refine lv_icmp_eq (tgt := 1538) hx hb dL_law_1533 (by decide) (fun c9 => ?_) (fun c9 => ?_)
  · skip
    refine lv_iload hx hb dL_law_1538 (lv_at hl 1 rfl) ?_
    refine lv_if_ne (tgt := 1555) hx hb dL_law_1540 (by decide) (fun c9 => ?_) (fun c9 => ?_)
    · skip
      refine lv_goto (tgt := 2834) hx hb dL_law_1555 (by decide) ?_
      exact kn w1 m1 H locs ls hI1 hP hD hS (lv_sub hl [2, 3, 4, 5, 6, 7] rfl)
    · skip
      obtain ⟨f, h47, hf⟩ := hko c9
      refine lv_aload_n hx hb dL_law_1543 rfl (lv_at hl 5 rfl) ?_
      refine lv_iconst (v := 0) hx hb dL_law_1544 (by decide) ?_
      refine z_top (y := nI 0) rfl ?_
      refine va_lald hx hb hK hP 47 3 (z_inl h47) rfl (vp_in_nI (n := 0) (by decide) (by decide)) dL_law_1545 ?_
      rw [show f (nI 0).toNatClampNeg = _ from hf]
      refine lv_iload hx hb dL_law_1546 (lv_at hl 0 rfl) ?_
      refine lv_i2l hx hb dL_law_1548 rfl ?_
      refine W.lcmp hx hb dL_law_1549 ?_
      refine z_top (y := 0) (lg_cmp_rf rfl) ?_
      refine lv_if_eq (tgt := 1555) hx hb dL_law_1550 (by decide) (fun c9 => ?_) (fun c9 => ?_)
      · skip
        refine lv_goto (tgt := 2834) hx hb dL_law_1555 (by decide) ?_
        exact kn w1 m1 H locs ls hI1 hP hD hS (lv_sub hl [2, 3, 4, 5, 6, 7] rfl)
      · exact absurd rfl c9
  · exact absurd rfl c9

set_option maxHeartbeats 4000000 in
set_option maxRecDepth 100000 in
/-- willKnit -/
theorem law_28 {G : zG} (hg : zGW G) {l : Launch} {D : va_G} {cy : Nat → ClassId} {I : va_W → va_W → Prop} {x0 x9 ow od b L : Nat} {xs : Nat → Int32} {p : Program} {e : Env} {s : State} {m : MethodId} {args : Array Value} {below : List Frame} {meth : Method} {c : Code} {H : Heap} {locs : List Loc} {cells slots : Nat} {Q : State → Prop} (hx : p.tables.exec = Jvm.exec) (hb : c.code = cL_law) (hml : c.maxLocals = 9) (hown : s.vm.findClass RL = some m.cls) (hts : ∀ w ∈ wsL_law, w.before args s = true) (hG : G (fun q => s.heap.size ≤ q) s) (hK : va_K D vwCl (zT cy) s) (hX : va_X b L xs s s.heap) (hbl : b < s.heap.size) {w mw : va_W} {i : Nat} (hi : i + 2 < L) (hL : L ≤ 1536) (hI : I w mw) (hhd : ∀ w m, I w m → zHd x0 x9 w m) (hP : va_P D vwCl (w ++ mw) H) (hD : va_D (fun q => s.heap.size ≤ q) (w ++ mw)) (hS : va_S (fun q => s.heap.size ≤ q) s.heap H locs) (ls : Array Slot) (hl : lv_has ls 9 [(0, .ref b), (1, .ref x0), (2, .ref x9), (3, .ref ow), (4, .ref od), (5, .int (nI i))]) (hrc : cells + 2 ≤ 603072) (hrs : slots + 96 ≤ 7202922) (harm : zArmS G D cy l I x9 yL_willKnit wsL_willKnit [.ref x0, .int (xs (i + 1)), .ref ow] yX6_willKnit wsX6_willKnit [.ref x9, .int (xs (i + 1))] (fun w' b => zOut ow cy w' (if b = 0 then 0 else 1)) w mw) (kn : ∀ (w' m' : va_W) (H1 : Heap) (locs1 : List Loc) (ls1 : Array Slot), I w' m' → va_P D vwCl (w' ++ m') H1 → va_D (fun q => s.heap.size ≤ q) (w' ++ m') → va_S (fun q => s.heap.size ≤ q) s.heap H1 locs1 → lv_has ls1 9 [(0, .ref b), (1, .ref x0), (2, .ref x9), (3, .ref ow), (4, .ref od), (5, .int (nI i))] → W p l e room_1 s m args below meth c H1 locs1 (cells + 2) (slots + 96) Q (F0 m 2834 ls1 [])) : W p l e room_1 s m args below meth c H locs cells slots Q (F0 m 1558 ls []) := by
  refine lv_aload_n hx hb dL_law_1558 rfl (lv_at hl 1 rfl) ?_
  refine lv_aload_n hx hb dL_law_1559 rfl (lv_at hl 0 rfl) ?_
  refine lv_iload hx hb dL_law_1560 (lv_at hl 5 rfl) ?_
  refine lv_iconst (v := 1) hx hb dL_law_1562 (by decide) ?_
  refine lv_iadd hx hb dL_law_1563 ?_
  refine z_top (y := nI (i + 1)) (nI_add i 1) ?_
  refine va_sld hx hb hX hbl (Nat.not_le.mpr hbl) hS (vp_in_nI (n := i + 1) (by omega) (by omega)) dL_law_1564 ?_
  refine z_top (y := xs (i + 1)) (by rw [nI_clamp (by omega)]) ?_
  refine lv_aload_n hx hb dL_law_1565 rfl (lv_at hl 3 rfl) ?_
  obtain ⟨Φ, Ψ, hM1, hM2, hpure⟩ := harm
  refine zlS (As := [.ref x0, .int (xs (i + 1)), .ref ow]) (rest := []) (hh := [(0, 16, 19, 13)]) hg.1.1.1.1.1 ⟨hx, hb, hml, hown, hts⟩ hM1 (vx_cwSW 3 hts gL_law_L_willKnit rfl rfl rfl (by decide +kernel) ⟨Nat.le_of_ble_eq_true rfl, Nat.le_of_ble_eq_true rfl⟩) hG hK hP hD hS (fun _ h => h) rfl hl.1 rfl (Nat.le_of_ble_eq_true rfl) dL_law_1566 ⟨hrc, hrs⟩ (fun w1 o1 H locs h1 hP hD hS => ?_)
  obtain ⟨k, rfl, h1⟩ := h1
  have hP := va_P_swap hP
  have hD := va_D_swap hD
  refine lv_istore (lv' := [(6, .int k), (0, .ref b), (1, .ref x0), (2, .ref x9), (3, .ref ow), (4, .ref od), (5, .int (nI i))]) hx hb dL_law_1569 hl (by decide) rfl (fun ls hl => ?_)
  refine lv_aload_n hx hb dL_law_1571 rfl (lv_at hl 3 rfl) ?_
  refine lv_aload_n hx hb dL_law_1572 rfl (lv_at hl 1 rfl) ?_
  refine lv_iload hx hb dL_law_1573 (lv_at hl 6 rfl) ?_
  refine lv_iconst (v := 1) hx hb dL_law_1575 (by decide) ?_
  refine lv_iadd hx hb dL_law_1576 ?_
  refine z_top (y := nI (i + 1)) (nI_add i 1) ?_
  refine va_sld hx hb hX hbl (Nat.not_le.mpr hbl) hS (vp_in_nI (n := i + 1) (by omega) (by omega)) dL_law_1577 ?_
  refine z_top (y := xs (i + 1)) (by rw [nI_clamp (by omega)]) ?_
  obtain ⟨⟨fs0, e0⟩, fs9, e9⟩ := hhd _ _ hI
  refine zlV (ci := 10) (As := [.int (xs (i + 1))]) (rest := []) 0 hg.1.1.1.1.1 ⟨hx, hb, hml, hown, hts⟩ hM2 (cwV 1 hts gL_law_X6_willKnit rfl rfl rfl (by decide +kernel) ⟨Nat.le_of_ble_eq_true rfl, Nat.le_of_ble_eq_true rfl⟩) hG hK hP hD hS (fun _ h => h) rfl e9 rfl hl.1 rfl (Nat.le_of_ble_eq_true rfl) dL_law_1578 ⟨hrc, hrs⟩ (fun m1 o2 H locs h2 hP hD hS => ?_)
  obtain ⟨bb, rfl, h2⟩ := h2
  obtain ⟨hth, hko, hI1⟩ := hpure w1 k m1 bb h1 h2
  refine lv_istore (lv' := [(7, .int bb), (6, .int k), (0, .ref b), (1, .ref x0), (2, .ref x9), (3, .ref ow), (4, .ref od), (5, .int (nI i))]) hx hb dL_law_1581 hl (by decide) rfl (fun ls hl => ?_)
  refine lv_aload_n hx hb dL_law_1583 rfl (lv_at hl 4 rfl) ?_
  obtain ⟨⟨fs1, e1⟩, fs2, e2⟩ := hhd _ _ hI1
  refine zlV (ci := 10) (As := []) (rest := []) 0 hg.1.1.1.1.1 ⟨hx, hb, hml, hown, hts⟩ hth (cwV 0 hts gL_law_X6_thrown rfl rfl rfl (by decide +kernel) ⟨Nat.le_of_ble_eq_true rfl, Nat.le_of_ble_eq_true rfl⟩) hG hK hP hD hS (fun _ h => h) rfl e2 rfl hl.1 rfl (Nat.le_of_ble_eq_true rfl) dL_law_1584 ⟨hrc, hrs⟩ (fun m2 o3 H locs h3 hP hD hS => ?_)
  obtain ⟨em, rfl⟩ := h3
  rw [em] at hP hD
  have hP := va_P_swap hP
  have hD := va_D_swap hD
  refine lv_iload hx hb dL_law_1587 (lv_at hl 1 rfl) ?_
  refine lv_icmp_eq (tgt := 1594) hx hb dL_law_1589 (by decide) (fun c9 => ?_) (fun c9 => ?_)
  · skip
    refine lv_iload hx hb dL_law_1594 (lv_at hl 1 rfl) ?_
    refine lv_if_ne (tgt := 1618) hx hb dL_law_1596 (by decide) (fun c9 => ?_) (fun c9 => ?_)
    · skip
      refine lv_goto (tgt := 2834) hx hb dL_law_1618 (by decide) ?_
      exact kn w1 m1 H locs ls hI1 hP hD hS (lv_sub hl [2, 3, 4, 5, 6, 7] rfl)
    · skip
      obtain ⟨f, h47, hf⟩ := hko c9
      refine lv_aload_n hx hb dL_law_1599 rfl (lv_at hl 5 rfl) ?_
      refine lv_iconst (v := 0) hx hb dL_law_1600 (by decide) ?_
      refine z_top (y := nI 0) rfl ?_
      refine va_lald hx hb hK hP 47 3 (z_inl h47) rfl (vp_in_nI (n := 0) (by decide) (by decide)) dL_law_1601 ?_
      rw [show f (nI 0).toNatClampNeg = _ from hf]
      refine lv_iload hx hb dL_law_1602 (lv_at hl 0 rfl) ?_
      refine lv_if_eq (tgt := 1611) hx hb dL_law_1604 (by decide) (fun c9 => ?_) (fun c9 => ?_)
      · skip
        refine lv_lconst (v := 0) hx hb dL_law_1611 rfl ?_
        refine W.lcmp hx hb dL_law_1612 ?_
        refine z_top (y := 0) (lg_cmp_rf (by rw [if_pos c9] <;> rfl)) ?_
        refine lv_if_eq (tgt := 1618) hx hb dL_law_1613 (by decide) (fun c9 => ?_) (fun c9 => ?_)
        · skip
          refine lv_goto (tgt := 2834) hx hb dL_law_1618 (by decide) ?_
          exact kn w1 m1 H locs ls hI1 hP hD hS (lv_sub hl [2, 3, 4, 5, 6, 7] rfl)
        · exact absurd rfl c9
      · skip
        refine lv_lconst (v := 1) hx hb dL_law_1607 rfl ?_
        refine lv_goto (tgt := 1612) hx hb dL_law_1608 (by decide) ?_
        refine W.lcmp hx hb dL_law_1612 ?_
        refine z_top (y := 0) (lg_cmp_rf (by rw [if_neg c9] <;> rfl)) ?_
        refine lv_if_eq (tgt := 1618) hx hb dL_law_1613 (by decide) (fun c9 => ?_) (fun c9 => ?_)
        · skip
          refine lv_goto (tgt := 2834) hx hb dL_law_1618 (by decide) ?_
          exact kn w1 m1 H locs ls hI1 hP hD hS (lv_sub hl [2, 3, 4, 5, 6, 7] rfl)
        · exact absurd rfl c9
  · exact absurd rfl c9

set_option maxHeartbeats 4000000 in
set_option maxRecDepth 100000 in
/-- nextWidth -/
theorem law_29 {G : zG} (hg : zGW G) {l : Launch} {D : va_G} {cy : Nat → ClassId} {I : va_W → va_W → Prop} {x0 x9 ow od b L : Nat} {xs : Nat → Int32} {p : Program} {e : Env} {s : State} {m : MethodId} {args : Array Value} {below : List Frame} {meth : Method} {c : Code} {H : Heap} {locs : List Loc} {cells slots : Nat} {Q : State → Prop} (hx : p.tables.exec = Jvm.exec) (hb : c.code = cL_law) (hml : c.maxLocals = 9) (hown : s.vm.findClass RL = some m.cls) (hts : ∀ w ∈ wsL_law, w.before args s = true) (hG : G (fun q => s.heap.size ≤ q) s) (hK : va_K D vwCl (zT cy) s) (hX : va_X b L xs s s.heap) (hbl : b < s.heap.size) {w mw : va_W} {i : Nat} (hi : i + 2 < L) (hL : L ≤ 1536) (hI : I w mw) (hhd : ∀ w m, I w m → zHd x0 x9 w m) (hP : va_P D vwCl (w ++ mw) H) (hD : va_D (fun q => s.heap.size ≤ q) (w ++ mw)) (hS : va_S (fun q => s.heap.size ≤ q) s.heap H locs) (ls : Array Slot) (hl : lv_has ls 9 [(0, .ref b), (1, .ref x0), (2, .ref x9), (3, .ref ow), (4, .ref od), (5, .int (nI i))]) (hrc : cells + 2 ≤ 603072) (hrs : slots + 96 ≤ 7202922) (harm : zArmD G D cy l I yX5_nextWidth wsX5_nextWidth [.ref x0] yX6_nextWidth wsX6_nextWidth [.ref x9] w mw) (kn : ∀ (w' m' : va_W) (H1 : Heap) (locs1 : List Loc) (ls1 : Array Slot), I w' m' → va_P D vwCl (w' ++ m') H1 → va_D (fun q => s.heap.size ≤ q) (w' ++ m') → va_S (fun q => s.heap.size ≤ q) s.heap H1 locs1 → lv_has ls1 9 [(0, .ref b), (1, .ref x0), (2, .ref x9), (3, .ref ow), (4, .ref od), (5, .int (nI i))] → W p l e room_1 s m args below meth c H1 locs1 (cells + 2) (slots + 96) Q (F0 m 2834 ls1 [])) : W p l e room_1 s m args below meth c H locs cells slots Q (F0 m 1621 ls []) := by
  refine lv_aload_n hx hb dL_law_1621 rfl (lv_at hl 1 rfl) ?_
  obtain ⟨Φ, Ψ, hM1, hM2, hpure⟩ := harm
  obtain ⟨⟨fs0, e0⟩, fs9, e9⟩ := hhd _ _ hI
  refine zlV (ci := 9) (As := []) (rest := []) 0 hg.1.1.1.1.1 ⟨hx, hb, hml, hown, hts⟩ hM1 (cwV 0 hts gL_law_X5_nextWidth rfl rfl rfl (by decide +kernel) ⟨Nat.le_of_ble_eq_true rfl, Nat.le_of_ble_eq_true rfl⟩) hG hK hP hD hS (fun _ h => h) rfl e0 rfl hl.1 rfl (Nat.le_of_ble_eq_true rfl) dL_law_1622 ⟨hrc, hrs⟩ (fun w1 o1 H locs h1 hP hD hS => ?_)
  obtain ⟨k, rfl, h1⟩ := h1
  have hP := va_P_swap hP
  have hD := va_D_swap hD
  refine lv_aload_n hx hb dL_law_1625 rfl (lv_at hl 2 rfl) ?_
  refine zlV (ci := 10) (As := []) (rest := [.int k]) 0 hg.1.1.1.1.1 ⟨hx, hb, hml, hown, hts⟩ hM2 (cwV 0 hts gL_law_X6_nextWidth rfl rfl rfl (by decide +kernel) ⟨Nat.le_of_ble_eq_true rfl, Nat.le_of_ble_eq_true rfl⟩) hG hK hP hD hS (fun _ h => h) rfl e9 rfl hl.1 rfl (Nat.le_of_ble_eq_true rfl) dL_law_1626 ⟨hrc, hrs⟩ (fun m1 o2 H locs h2 hP hD hS => ?_)
  obtain ⟨bb, rfl, h2⟩ := h2
  obtain ⟨hkb, hI1⟩ := hpure w1 k m1 bb h1 h2
  have hP := va_P_swap hP
  have hD := va_D_swap hD
  refine lv_icmp_eq (tgt := 2834) hx hb dL_law_1629 (by decide) (fun c9 => ?_) (fun c9 => ?_)
  · skip
    exact kn w1 m1 H locs ls hI1 hP hD hS (lv_sub hl [0, 1, 2, 3, 4, 5] rfl)
  · exact absurd hkb c9

set_option maxHeartbeats 4000000 in
set_option maxRecDepth 100000 in
/-- nextWidthByMask -/
theorem law_30 {G : zG} (hg : zGW G) {l : Launch} {D : va_G} {cy : Nat → ClassId} {I : va_W → va_W → Prop} {x0 x9 ow od b L : Nat} {xs : Nat → Int32} {p : Program} {e : Env} {s : State} {m : MethodId} {args : Array Value} {below : List Frame} {meth : Method} {c : Code} {H : Heap} {locs : List Loc} {cells slots : Nat} {Q : State → Prop} (hx : p.tables.exec = Jvm.exec) (hb : c.code = cL_law) (hml : c.maxLocals = 9) (hown : s.vm.findClass RL = some m.cls) (hts : ∀ w ∈ wsL_law, w.before args s = true) (hG : G (fun q => s.heap.size ≤ q) s) (hK : va_K D vwCl (zT cy) s) (hX : va_X b L xs s s.heap) (hbl : b < s.heap.size) {w mw : va_W} {i : Nat} (hi : i + 2 < L) (hL : L ≤ 1536) (hI : I w mw) (hhd : ∀ w m, I w m → zHd x0 x9 w m) (hP : va_P D vwCl (w ++ mw) H) (hD : va_D (fun q => s.heap.size ≤ q) (w ++ mw)) (hS : va_S (fun q => s.heap.size ≤ q) s.heap H locs) (ls : Array Slot) (hl : lv_has ls 9 [(0, .ref b), (1, .ref x0), (2, .ref x9), (3, .ref ow), (4, .ref od), (5, .int (nI i))]) (hrc : cells + 2 ≤ 603072) (hrs : slots + 96 ≤ 7202922) (harm : zArmD G D cy l I yX5_nextWidthByMask wsX5_nextWidthByMask [.ref x0] yX6_nextWidthByMask wsX6_nextWidthByMask [.ref x9] w mw) (kn : ∀ (w' m' : va_W) (H1 : Heap) (locs1 : List Loc) (ls1 : Array Slot), I w' m' → va_P D vwCl (w' ++ m') H1 → va_D (fun q => s.heap.size ≤ q) (w' ++ m') → va_S (fun q => s.heap.size ≤ q) s.heap H1 locs1 → lv_has ls1 9 [(0, .ref b), (1, .ref x0), (2, .ref x9), (3, .ref ow), (4, .ref od), (5, .int (nI i))] → W p l e room_1 s m args below meth c H1 locs1 (cells + 2) (slots + 96) Q (F0 m 2834 ls1 [])) : W p l e room_1 s m args below meth c H locs cells slots Q (F0 m 1634 ls []) := by
  refine lv_aload_n hx hb dL_law_1634 rfl (lv_at hl 1 rfl) ?_
  obtain ⟨Φ, Ψ, hM1, hM2, hpure⟩ := harm
  obtain ⟨⟨fs0, e0⟩, fs9, e9⟩ := hhd _ _ hI
  refine zlV (ci := 9) (As := []) (rest := []) 0 hg.1.1.1.1.1 ⟨hx, hb, hml, hown, hts⟩ hM1 (cwV 0 hts gL_law_X5_nextWidthByMask rfl rfl rfl (by decide +kernel) ⟨Nat.le_of_ble_eq_true rfl, Nat.le_of_ble_eq_true rfl⟩) hG hK hP hD hS (fun _ h => h) rfl e0 rfl hl.1 rfl (Nat.le_of_ble_eq_true rfl) dL_law_1635 ⟨hrc, hrs⟩ (fun w1 o1 H locs h1 hP hD hS => ?_)
  obtain ⟨k, rfl, h1⟩ := h1
  have hP := va_P_swap hP
  have hD := va_D_swap hD
  refine lv_aload_n hx hb dL_law_1638 rfl (lv_at hl 2 rfl) ?_
  refine zlV (ci := 10) (As := []) (rest := [.int k]) 0 hg.1.1.1.1.1 ⟨hx, hb, hml, hown, hts⟩ hM2 (cwV 0 hts gL_law_X6_nextWidthByMask rfl rfl rfl (by decide +kernel) ⟨Nat.le_of_ble_eq_true rfl, Nat.le_of_ble_eq_true rfl⟩) hG hK hP hD hS (fun _ h => h) rfl e9 rfl hl.1 rfl (Nat.le_of_ble_eq_true rfl) dL_law_1639 ⟨hrc, hrs⟩ (fun m1 o2 H locs h2 hP hD hS => ?_)
  obtain ⟨bb, rfl, h2⟩ := h2
  obtain ⟨hkb, hI1⟩ := hpure w1 k m1 bb h1 h2
  have hP := va_P_swap hP
  have hD := va_D_swap hD
  refine lv_icmp_eq (tgt := 2834) hx hb dL_law_1642 (by decide) (fun c9 => ?_) (fun c9 => ?_)
  · skip
    exact kn w1 m1 H locs ls hI1 hP hD hS (lv_sub hl [0, 1, 2, 3, 4, 5] rfl)
  · exact absurd hkb c9
