set_option maxHeartbeats 4000000 in
set_option maxRecDepth 100000 in
/-- stitchesIn -/
theorem law_31 {G : zG} (hg : zGW G) {l : Launch} {D : va_G} {cy : Nat → ClassId} {I : va_W → va_W → Prop} {x0 x9 ow od b L : Nat} {xs : Nat → Int32} {p : Program} {e : Env} {s : State} {m : MethodId} {args : Array Value} {below : List Frame} {meth : Method} {c : Code} {H : Heap} {locs : List Loc} {cells slots : Nat} {Q : State → Prop} (hx : p.tables.exec = Jvm.exec) (hb : c.code = cL_law) (hml : c.maxLocals = 9) (hown : s.vm.findClass RL = some m.cls) (hts : ∀ w ∈ wsL_law, w.before args s = true) (hG : G (fun q => s.heap.size ≤ q) s) (hK : va_K D vwCl (zT cy) s) (hX : va_X b L xs s s.heap) (hbl : b < s.heap.size) {w mw : va_W} {i : Nat} (hi : i + 2 < L) (hL : L ≤ 1536) (hI : I w mw) (hhd : ∀ w m, I w m → zHd x0 x9 w m) (hP : va_P D vwCl (w ++ mw) H) (hD : va_D (fun q => s.heap.size ≤ q) (w ++ mw)) (hS : va_S (fun q => s.heap.size ≤ q) s.heap H locs) (ls : Array Slot) (hl : lv_has ls 9 [(0, .ref b), (1, .ref x0), (2, .ref x9), (3, .ref ow), (4, .ref od), (5, .int (nI i))]) (hrc : cells + 2 ≤ 603072) (hrs : slots + 96 ≤ 7202922) (harm : zArmS G D cy l I x9 yL_stitchesIn wsL_stitchesIn [.ref x0, .int (xs (i + 1)), .ref ow] yX6_stitchesIn wsX6_stitchesIn [.ref x9, .int (xs (i + 1))] (fun w' b => zOut ow cy w' b.toInt64) w mw) (kn : ∀ (w' m' : va_W) (H1 : Heap) (locs1 : List Loc) (ls1 : Array Slot), I w' m' → va_P D vwCl (w' ++ m') H1 → va_D (fun q => s.heap.size ≤ q) (w' ++ m') → va_S (fun q => s.heap.size ≤ q) s.heap H1 locs1 → lv_has ls1 9 [(0, .ref b), (1, .ref x0), (2, .ref x9), (3, .ref ow), (4, .ref od), (5, .int (nI i))] → W p l e room_1 s m args below meth c H1 locs1 (cells + 2) (slots + 96) Q (F0 m 2834 ls1 [])) : W p l e room_1 s m args below meth c H locs cells slots Q (F0 m 1647 ls []) := by
  refine lv_aload_n hx hb dL_law_1647 rfl (lv_at hl 1 rfl) ?_
  refine lv_aload_n hx hb dL_law_1648 rfl (lv_at hl 0 rfl) ?_
  refine lv_iload hx hb dL_law_1649 (lv_at hl 5 rfl) ?_
  refine lv_iconst (v := 1) hx hb dL_law_1651 (by decide) ?_
  refine lv_iadd hx hb dL_law_1652 ?_
  refine z_top (y := nI (i + 1)) (nI_add i 1) ?_
  refine va_sld hx hb hX hbl (Nat.not_le.mpr hbl) hS (vp_in_nI (n := i + 1) (by omega) (by omega)) dL_law_1653 ?_
  refine z_top (y := xs (i + 1)) (by rw [nI_clamp (by omega)]) ?_
  refine lv_aload_n hx hb dL_law_1654 rfl (lv_at hl 3 rfl) ?_
  obtain ⟨Φ, Ψ, hM1, hM2, hpure⟩ := harm
  refine zlS (As := [.ref x0, .int (xs (i + 1)), .ref ow]) (rest := []) (hh := [(0, 9, 12, 15)]) hg.1.1.1.1.1 ⟨hx, hb, hml, hown, hts⟩ hM1 (vx_cwSW 3 hts gL_law_L_stitchesIn rfl rfl rfl (by decide +kernel) ⟨Nat.le_of_ble_eq_true rfl, Nat.le_of_ble_eq_true rfl⟩) hG hK hP hD hS (fun _ h => h) rfl hl.1 rfl (Nat.le_of_ble_eq_true rfl) dL_law_1655 ⟨hrc, hrs⟩ (fun w1 o1 H locs h1 hP hD hS => ?_)
  obtain ⟨k, rfl, h1⟩ := h1
  have hP := va_P_swap hP
  have hD := va_D_swap hD
  refine lv_istore (lv' := [(6, .int k), (0, .ref b), (1, .ref x0), (2, .ref x9), (3, .ref ow), (4, .ref od), (5, .int (nI i))]) hx hb dL_law_1658 hl (by decide) rfl (fun ls hl => ?_)
  refine lv_aload_n hx hb dL_law_1660 rfl (lv_at hl 3 rfl) ?_
  refine lv_aload_n hx hb dL_law_1661 rfl (lv_at hl 1 rfl) ?_
  refine lv_iload hx hb dL_law_1662 (lv_at hl 6 rfl) ?_
  refine lv_iconst (v := 1) hx hb dL_law_1664 (by decide) ?_
  refine lv_iadd hx hb dL_law_1665 ?_
  refine z_top (y := nI (i + 1)) (nI_add i 1) ?_
  refine va_sld hx hb hX hbl (Nat.not_le.mpr hbl) hS (vp_in_nI (n := i + 1) (by omega) (by omega)) dL_law_1666 ?_
  refine z_top (y := xs (i + 1)) (by rw [nI_clamp (by omega)]) ?_
  obtain ⟨⟨fs0, e0⟩, fs9, e9⟩ := hhd _ _ hI
  refine zlV (ci := 10) (As := [.int (xs (i + 1))]) (rest := []) 0 hg.1.1.1.1.1 ⟨hx, hb, hml, hown, hts⟩ hM2 (cwV 1 hts gL_law_X6_stitchesIn rfl rfl rfl (by decide +kernel) ⟨Nat.le_of_ble_eq_true rfl, Nat.le_of_ble_eq_true rfl⟩) hG hK hP hD hS (fun _ h => h) rfl e9 rfl hl.1 rfl (Nat.le_of_ble_eq_true rfl) dL_law_1667 ⟨hrc, hrs⟩ (fun m1 o2 H locs h2 hP hD hS => ?_)
  obtain ⟨bb, rfl, h2⟩ := h2
  obtain ⟨hth, hko, hI1⟩ := hpure w1 k m1 bb h1 h2
  refine lv_istore (lv' := [(7, .int bb), (6, .int k), (0, .ref b), (1, .ref x0), (2, .ref x9), (3, .ref ow), (4, .ref od), (5, .int (nI i))]) hx hb dL_law_1670 hl (by decide) rfl (fun ls hl => ?_)
  refine lv_aload_n hx hb dL_law_1672 rfl (lv_at hl 4 rfl) ?_
  obtain ⟨⟨fs1, e1⟩, fs2, e2⟩ := hhd _ _ hI1
  refine zlV (ci := 10) (As := []) (rest := []) 0 hg.1.1.1.1.1 ⟨hx, hb, hml, hown, hts⟩ hth (cwV 0 hts gL_law_X6_thrown rfl rfl rfl (by decide +kernel) ⟨Nat.le_of_ble_eq_true rfl, Nat.le_of_ble_eq_true rfl⟩) hG hK hP hD hS (fun _ h => h) rfl e2 rfl hl.1 rfl (Nat.le_of_ble_eq_true rfl) dL_law_1673 ⟨hrc, hrs⟩ (fun m2 o3 H locs h3 hP hD hS => ?_)
  obtain ⟨em, rfl⟩ := h3
  rw [em] at hP hD
  have hP := va_P_swap hP
  have hD := va_D_swap hD
  refine lv_iload hx hb dL_law_1676 (lv_at hl 1 rfl) ?_
  refine lv_icmp_eq (tgt := 1683) hx hb dL_law_1678 (by decide) (fun c9 => ?_) (fun c9 => ?_)
  · skip
    refine lv_iload hx hb dL_law_1683 (lv_at hl 1 rfl) ?_
    refine lv_if_ne (tgt := 1700) hx hb dL_law_1685 (by decide) (fun c9 => ?_) (fun c9 => ?_)
    · skip
      refine lv_goto (tgt := 2834) hx hb dL_law_1700 (by decide) ?_
      exact kn w1 m1 H locs ls hI1 hP hD hS (lv_sub hl [2, 3, 4, 5, 6, 7] rfl)
    · skip
      obtain ⟨f, h47, hf⟩ := hko c9
      refine lv_aload_n hx hb dL_law_1688 rfl (lv_at hl 5 rfl) ?_
      refine lv_iconst (v := 0) hx hb dL_law_1689 (by decide) ?_
      refine z_top (y := nI 0) rfl ?_
      refine va_lald hx hb hK hP 47 3 (z_inl h47) rfl (vp_in_nI (n := 0) (by decide) (by decide)) dL_law_1690 ?_
      rw [show f (nI 0).toNatClampNeg = _ from hf]
      refine lv_iload hx hb dL_law_1691 (lv_at hl 0 rfl) ?_
      refine lv_i2l hx hb dL_law_1693 rfl ?_
      refine W.lcmp hx hb dL_law_1694 ?_
      refine z_top (y := 0) (lg_cmp_rf rfl) ?_
      refine lv_if_eq (tgt := 1700) hx hb dL_law_1695 (by decide) (fun c9 => ?_) (fun c9 => ?_)
      · skip
        refine lv_goto (tgt := 2834) hx hb dL_law_1700 (by decide) ?_
        exact kn w1 m1 H locs ls hI1 hP hD hS (lv_sub hl [2, 3, 4, 5, 6, 7] rfl)
      · exact absurd rfl c9
  · exact absurd rfl c9

set_option maxHeartbeats 4000000 in
set_option maxRecDepth 100000 in
/-- dropsIn -/
theorem law_32 {G : zG} (hg : zGW G) {l : Launch} {D : va_G} {cy : Nat → ClassId} {I : va_W → va_W → Prop} {x0 x9 ow od b L : Nat} {xs : Nat → Int32} {p : Program} {e : Env} {s : State} {m : MethodId} {args : Array Value} {below : List Frame} {meth : Method} {c : Code} {H : Heap} {locs : List Loc} {cells slots : Nat} {Q : State → Prop} (hx : p.tables.exec = Jvm.exec) (hb : c.code = cL_law) (hml : c.maxLocals = 9) (hown : s.vm.findClass RL = some m.cls) (hts : ∀ w ∈ wsL_law, w.before args s = true) (hG : G (fun q => s.heap.size ≤ q) s) (hK : va_K D vwCl (zT cy) s) (hX : va_X b L xs s s.heap) (hbl : b < s.heap.size) {w mw : va_W} {i : Nat} (hi : i + 2 < L) (hL : L ≤ 1536) (hI : I w mw) (hhd : ∀ w m, I w m → zHd x0 x9 w m) (hP : va_P D vwCl (w ++ mw) H) (hD : va_D (fun q => s.heap.size ≤ q) (w ++ mw)) (hS : va_S (fun q => s.heap.size ≤ q) s.heap H locs) (ls : Array Slot) (hl : lv_has ls 9 [(0, .ref b), (1, .ref x0), (2, .ref x9), (3, .ref ow), (4, .ref od), (5, .int (nI i))]) (hrc : cells + 2 ≤ 603072) (hrs : slots + 96 ≤ 7202922) (harm : zArmS G D cy l I x9 yL_dropsIn wsL_dropsIn [.ref x0, .int (xs (i + 1)), .ref ow] yX6_dropsIn wsX6_dropsIn [.ref x9, .int (xs (i + 1))] (fun w' b => zOut ow cy w' b.toInt64) w mw) (kn : ∀ (w' m' : va_W) (H1 : Heap) (locs1 : List Loc) (ls1 : Array Slot), I w' m' → va_P D vwCl (w' ++ m') H1 → va_D (fun q => s.heap.size ≤ q) (w' ++ m') → va_S (fun q => s.heap.size ≤ q) s.heap H1 locs1 → lv_has ls1 9 [(0, .ref b), (1, .ref x0), (2, .ref x9), (3, .ref ow), (4, .ref od), (5, .int (nI i))] → W p l e room_1 s m args below meth c H1 locs1 (cells + 2) (slots + 96) Q (F0 m 2834 ls1 [])) : W p l e room_1 s m args below meth c H locs cells slots Q (F0 m 1703 ls []) := by
  refine lv_aload_n hx hb dL_law_1703 rfl (lv_at hl 1 rfl) ?_
  refine lv_aload_n hx hb dL_law_1704 rfl (lv_at hl 0 rfl) ?_
  refine lv_iload hx hb dL_law_1705 (lv_at hl 5 rfl) ?_
  refine lv_iconst (v := 1) hx hb dL_law_1707 (by decide) ?_
  refine lv_iadd hx hb dL_law_1708 ?_
  refine z_top (y := nI (i + 1)) (nI_add i 1) ?_
  refine va_sld hx hb hX hbl (Nat.not_le.mpr hbl) hS (vp_in_nI (n := i + 1) (by omega) (by omega)) dL_law_1709 ?_
  refine z_top (y := xs (i + 1)) (by rw [nI_clamp (by omega)]) ?_
  refine lv_aload_n hx hb dL_law_1710 rfl (lv_at hl 3 rfl) ?_
  obtain ⟨Φ, Ψ, hM1, hM2, hpure⟩ := harm
  refine zlS (As := [.ref x0, .int (xs (i + 1)), .ref ow]) (rest := []) (hh := [(0, 9, 12, 15)]) hg.1.1.1.1.1 ⟨hx, hb, hml, hown, hts⟩ hM1 (vx_cwSW 3 hts gL_law_L_dropsIn rfl rfl rfl (by decide +kernel) ⟨Nat.le_of_ble_eq_true rfl, Nat.le_of_ble_eq_true rfl⟩) hG hK hP hD hS (fun _ h => h) rfl hl.1 rfl (Nat.le_of_ble_eq_true rfl) dL_law_1711 ⟨hrc, hrs⟩ (fun w1 o1 H locs h1 hP hD hS => ?_)
  obtain ⟨k, rfl, h1⟩ := h1
  have hP := va_P_swap hP
  have hD := va_D_swap hD
  refine lv_istore (lv' := [(6, .int k), (0, .ref b), (1, .ref x0), (2, .ref x9), (3, .ref ow), (4, .ref od), (5, .int (nI i))]) hx hb dL_law_1714 hl (by decide) rfl (fun ls hl => ?_)
  refine lv_aload_n hx hb dL_law_1716 rfl (lv_at hl 3 rfl) ?_
  refine lv_aload_n hx hb dL_law_1717 rfl (lv_at hl 1 rfl) ?_
  refine lv_iload hx hb dL_law_1718 (lv_at hl 6 rfl) ?_
  refine lv_iconst (v := 1) hx hb dL_law_1720 (by decide) ?_
  refine lv_iadd hx hb dL_law_1721 ?_
  refine z_top (y := nI (i + 1)) (nI_add i 1) ?_
  refine va_sld hx hb hX hbl (Nat.not_le.mpr hbl) hS (vp_in_nI (n := i + 1) (by omega) (by omega)) dL_law_1722 ?_
  refine z_top (y := xs (i + 1)) (by rw [nI_clamp (by omega)]) ?_
  obtain ⟨⟨fs0, e0⟩, fs9, e9⟩ := hhd _ _ hI
  refine zlV (ci := 10) (As := [.int (xs (i + 1))]) (rest := []) 0 hg.1.1.1.1.1 ⟨hx, hb, hml, hown, hts⟩ hM2 (cwV 1 hts gL_law_X6_dropsIn rfl rfl rfl (by decide +kernel) ⟨Nat.le_of_ble_eq_true rfl, Nat.le_of_ble_eq_true rfl⟩) hG hK hP hD hS (fun _ h => h) rfl e9 rfl hl.1 rfl (Nat.le_of_ble_eq_true rfl) dL_law_1723 ⟨hrc, hrs⟩ (fun m1 o2 H locs h2 hP hD hS => ?_)
  obtain ⟨bb, rfl, h2⟩ := h2
  obtain ⟨hth, hko, hI1⟩ := hpure w1 k m1 bb h1 h2
  refine lv_istore (lv' := [(7, .int bb), (6, .int k), (0, .ref b), (1, .ref x0), (2, .ref x9), (3, .ref ow), (4, .ref od), (5, .int (nI i))]) hx hb dL_law_1726 hl (by decide) rfl (fun ls hl => ?_)
  refine lv_aload_n hx hb dL_law_1728 rfl (lv_at hl 4 rfl) ?_
  obtain ⟨⟨fs1, e1⟩, fs2, e2⟩ := hhd _ _ hI1
  refine zlV (ci := 10) (As := []) (rest := []) 0 hg.1.1.1.1.1 ⟨hx, hb, hml, hown, hts⟩ hth (cwV 0 hts gL_law_X6_thrown rfl rfl rfl (by decide +kernel) ⟨Nat.le_of_ble_eq_true rfl, Nat.le_of_ble_eq_true rfl⟩) hG hK hP hD hS (fun _ h => h) rfl e2 rfl hl.1 rfl (Nat.le_of_ble_eq_true rfl) dL_law_1729 ⟨hrc, hrs⟩ (fun m2 o3 H locs h3 hP hD hS => ?_)
  obtain ⟨em, rfl⟩ := h3
  rw [em] at hP hD
  have hP := va_P_swap hP
  have hD := va_D_swap hD
  refine lv_iload hx hb dL_law_1732 (lv_at hl 1 rfl) ?_
  refine lv_icmp_eq (tgt := 1739) hx hb dL_law_1734 (by decide) (fun c9 => ?_) (fun c9 => ?_)
  · skip
    refine lv_iload hx hb dL_law_1739 (lv_at hl 1 rfl) ?_
    refine lv_if_ne (tgt := 1756) hx hb dL_law_1741 (by decide) (fun c9 => ?_) (fun c9 => ?_)
    · skip
      refine lv_goto (tgt := 2834) hx hb dL_law_1756 (by decide) ?_
      exact kn w1 m1 H locs ls hI1 hP hD hS (lv_sub hl [2, 3, 4, 5, 6, 7] rfl)
    · skip
      obtain ⟨f, h47, hf⟩ := hko c9
      refine lv_aload_n hx hb dL_law_1744 rfl (lv_at hl 5 rfl) ?_
      refine lv_iconst (v := 0) hx hb dL_law_1745 (by decide) ?_
      refine z_top (y := nI 0) rfl ?_
      refine va_lald hx hb hK hP 47 3 (z_inl h47) rfl (vp_in_nI (n := 0) (by decide) (by decide)) dL_law_1746 ?_
      rw [show f (nI 0).toNatClampNeg = _ from hf]
      refine lv_iload hx hb dL_law_1747 (lv_at hl 0 rfl) ?_
      refine lv_i2l hx hb dL_law_1749 rfl ?_
      refine W.lcmp hx hb dL_law_1750 ?_
      refine z_top (y := 0) (lg_cmp_rf rfl) ?_
      refine lv_if_eq (tgt := 1756) hx hb dL_law_1751 (by decide) (fun c9 => ?_) (fun c9 => ?_)
      · skip
        refine lv_goto (tgt := 2834) hx hb dL_law_1756 (by decide) ?_
        exact kn w1 m1 H locs ls hI1 hP hD hS (lv_sub hl [2, 3, 4, 5, 6, 7] rfl)
      · exact absurd rfl c9
  · exact absurd rfl c9

set_option maxHeartbeats 4000000 in
set_option maxRecDepth 100000 in
/-- coursesPossible -/
theorem law_33 {G : zG} (hg : zGW G) {l : Launch} {D : va_G} {cy : Nat → ClassId} {I : va_W → va_W → Prop} {x0 x9 ow od b L : Nat} {xs : Nat → Int32} {p : Program} {e : Env} {s : State} {m : MethodId} {args : Array Value} {below : List Frame} {meth : Method} {c : Code} {H : Heap} {locs : List Loc} {cells slots : Nat} {Q : State → Prop} (hx : p.tables.exec = Jvm.exec) (hb : c.code = cL_law) (hml : c.maxLocals = 9) (hown : s.vm.findClass RL = some m.cls) (hts : ∀ w ∈ wsL_law, w.before args s = true) (hG : G (fun q => s.heap.size ≤ q) s) (hK : va_K D vwCl (zT cy) s) (hX : va_X b L xs s s.heap) (hbl : b < s.heap.size) {w mw : va_W} {i : Nat} (hi : i + 2 < L) (hL : L ≤ 1536) (hI : I w mw) (hhd : ∀ w m, I w m → zHd x0 x9 w m) (hP : va_P D vwCl (w ++ mw) H) (hD : va_D (fun q => s.heap.size ≤ q) (w ++ mw)) (hS : va_S (fun q => s.heap.size ≤ q) s.heap H locs) (ls : Array Slot) (hl : lv_has ls 9 [(0, .ref b), (1, .ref x0), (2, .ref x9), (3, .ref ow), (4, .ref od), (5, .int (nI i))]) (hrc : cells + 2 ≤ 603072) (hrs : slots + 96 ≤ 7202922) (harm : zArmD G D cy l I yX5_coursesPossible wsX5_coursesPossible [.ref x0] yX6_coursesPossible wsX6_coursesPossible [.ref x9] w mw) (kn : ∀ (w' m' : va_W) (H1 : Heap) (locs1 : List Loc) (ls1 : Array Slot), I w' m' → va_P D vwCl (w' ++ m') H1 → va_D (fun q => s.heap.size ≤ q) (w' ++ m') → va_S (fun q => s.heap.size ≤ q) s.heap H1 locs1 → lv_has ls1 9 [(0, .ref b), (1, .ref x0), (2, .ref x9), (3, .ref ow), (4, .ref od), (5, .int (nI i))] → W p l e room_1 s m args below meth c H1 locs1 (cells + 2) (slots + 96) Q (F0 m 2834 ls1 [])) : W p l e room_1 s m args below meth c H locs cells slots Q (F0 m 1759 ls []) := by
  refine lv_aload_n hx hb dL_law_1759 rfl (lv_at hl 1 rfl) ?_
  obtain ⟨Φ, Ψ, hM1, hM2, hpure⟩ := harm
  obtain ⟨⟨fs0, e0⟩, fs9, e9⟩ := hhd _ _ hI
  refine zlV (ci := 9) (As := []) (rest := []) 0 hg.1.1.1.1.1 ⟨hx, hb, hml, hown, hts⟩ hM1 (cwV 0 hts gL_law_X5_coursesPossible rfl rfl rfl (by decide +kernel) ⟨Nat.le_of_ble_eq_true rfl, Nat.le_of_ble_eq_true rfl⟩) hG hK hP hD hS (fun _ h => h) rfl e0 rfl hl.1 rfl (Nat.le_of_ble_eq_true rfl) dL_law_1760 ⟨hrc, hrs⟩ (fun w1 o1 H locs h1 hP hD hS => ?_)
  obtain ⟨k, rfl, h1⟩ := h1
  have hP := va_P_swap hP
  have hD := va_D_swap hD
  refine lv_aload_n hx hb dL_law_1763 rfl (lv_at hl 2 rfl) ?_
  refine zlV (ci := 10) (As := []) (rest := [.int k]) 0 hg.1.1.1.1.1 ⟨hx, hb, hml, hown, hts⟩ hM2 (cwV 0 hts gL_law_X6_coursesPossible rfl rfl rfl (by decide +kernel) ⟨Nat.le_of_ble_eq_true rfl, Nat.le_of_ble_eq_true rfl⟩) hG hK hP hD hS (fun _ h => h) rfl e9 rfl hl.1 rfl (Nat.le_of_ble_eq_true rfl) dL_law_1764 ⟨hrc, hrs⟩ (fun m1 o2 H locs h2 hP hD hS => ?_)
  obtain ⟨bb, rfl, h2⟩ := h2
  obtain ⟨hkb, hI1⟩ := hpure w1 k m1 bb h1 h2
  have hP := va_P_swap hP
  have hD := va_D_swap hD
  refine lv_icmp_eq (tgt := 2834) hx hb dL_law_1767 (by decide) (fun c9 => ?_) (fun c9 => ?_)
  · skip
    exact kn w1 m1 H locs ls hI1 hP hD hS (lv_sub hl [0, 1, 2, 3, 4, 5] rfl)
  · exact absurd hkb c9

set_option maxHeartbeats 4000000 in
set_option maxRecDepth 100000 in
/-- courseCount -/
theorem law_34 {G : zG} (hg : zGW G) {l : Launch} {D : va_G} {cy : Nat → ClassId} {I : va_W → va_W → Prop} {x0 x9 ow od b L : Nat} {xs : Nat → Int32} {p : Program} {e : Env} {s : State} {m : MethodId} {args : Array Value} {below : List Frame} {meth : Method} {c : Code} {H : Heap} {locs : List Loc} {cells slots : Nat} {Q : State → Prop} (hx : p.tables.exec = Jvm.exec) (hb : c.code = cL_law) (hml : c.maxLocals = 9) (hown : s.vm.findClass RL = some m.cls) (hts : ∀ w ∈ wsL_law, w.before args s = true) (hG : G (fun q => s.heap.size ≤ q) s) (hK : va_K D vwCl (zT cy) s) (hX : va_X b L xs s s.heap) (hbl : b < s.heap.size) {w mw : va_W} {i : Nat} (hi : i + 2 < L) (hL : L ≤ 1536) (hI : I w mw) (hhd : ∀ w m, I w m → zHd x0 x9 w m) (hP : va_P D vwCl (w ++ mw) H) (hD : va_D (fun q => s.heap.size ≤ q) (w ++ mw)) (hS : va_S (fun q => s.heap.size ≤ q) s.heap H locs) (ls : Array Slot) (hl : lv_has ls 9 [(0, .ref b), (1, .ref x0), (2, .ref x9), (3, .ref ow), (4, .ref od), (5, .int (nI i))]) (hrc : cells + 2 ≤ 603072) (hrs : slots + 96 ≤ 7202922) (harm : zArmD G D cy l I yX5_courseCount wsX5_courseCount [.ref x0] yX6_courseCount wsX6_courseCount [.ref x9] w mw) (kn : ∀ (w' m' : va_W) (H1 : Heap) (locs1 : List Loc) (ls1 : Array Slot), I w' m' → va_P D vwCl (w' ++ m') H1 → va_D (fun q => s.heap.size ≤ q) (w' ++ m') → va_S (fun q => s.heap.size ≤ q) s.heap H1 locs1 → lv_has ls1 9 [(0, .ref b), (1, .ref x0), (2, .ref x9), (3, .ref ow), (4, .ref od), (5, .int (nI i))] → W p l e room_1 s m args below meth c H1 locs1 (cells + 2) (slots + 96) Q (F0 m 2834 ls1 [])) : W p l e room_1 s m args below meth c H locs cells slots Q (F0 m 1772 ls []) := by
  refine lv_aload_n hx hb dL_law_1772 rfl (lv_at hl 1 rfl) ?_
  obtain ⟨Φ, Ψ, hM1, hM2, hpure⟩ := harm
  obtain ⟨⟨fs0, e0⟩, fs9, e9⟩ := hhd _ _ hI
  refine zlV (ci := 9) (As := []) (rest := []) 0 hg.1.1.1.1.1 ⟨hx, hb, hml, hown, hts⟩ hM1 (cwV 0 hts gL_law_X5_courseCount rfl rfl rfl (by decide +kernel) ⟨Nat.le_of_ble_eq_true rfl, Nat.le_of_ble_eq_true rfl⟩) hG hK hP hD hS (fun _ h => h) rfl e0 rfl hl.1 rfl (Nat.le_of_ble_eq_true rfl) dL_law_1773 ⟨hrc, hrs⟩ (fun w1 o1 H locs h1 hP hD hS => ?_)
  obtain ⟨k, rfl, h1⟩ := h1
  have hP := va_P_swap hP
  have hD := va_D_swap hD
  refine lv_aload_n hx hb dL_law_1776 rfl (lv_at hl 2 rfl) ?_
  refine zlV (ci := 10) (As := []) (rest := [.int k]) 0 hg.1.1.1.1.1 ⟨hx, hb, hml, hown, hts⟩ hM2 (cwV 0 hts gL_law_X6_courseCount rfl rfl rfl (by decide +kernel) ⟨Nat.le_of_ble_eq_true rfl, Nat.le_of_ble_eq_true rfl⟩) hG hK hP hD hS (fun _ h => h) rfl e9 rfl hl.1 rfl (Nat.le_of_ble_eq_true rfl) dL_law_1777 ⟨hrc, hrs⟩ (fun m1 o2 H locs h2 hP hD hS => ?_)
  obtain ⟨bb, rfl, h2⟩ := h2
  obtain ⟨hkb, hI1⟩ := hpure w1 k m1 bb h1 h2
  have hP := va_P_swap hP
  have hD := va_D_swap hD
  refine lv_icmp_eq (tgt := 2834) hx hb dL_law_1780 (by decide) (fun c9 => ?_) (fun c9 => ?_)
  · skip
    exact kn w1 m1 H locs ls hI1 hP hD hS (lv_sub hl [0, 1, 2, 3, 4, 5] rfl)
  · exact absurd hkb c9

set_option maxHeartbeats 4000000 in
set_option maxRecDepth 100000 in
/-- widthOf -/
theorem law_35 {G : zG} (hg : zGW G) {l : Launch} {D : va_G} {cy : Nat → ClassId} {I : va_W → va_W → Prop} {x0 x9 ow od b L : Nat} {xs : Nat → Int32} {p : Program} {e : Env} {s : State} {m : MethodId} {args : Array Value} {below : List Frame} {meth : Method} {c : Code} {H : Heap} {locs : List Loc} {cells slots : Nat} {Q : State → Prop} (hx : p.tables.exec = Jvm.exec) (hb : c.code = cL_law) (hml : c.maxLocals = 9) (hown : s.vm.findClass RL = some m.cls) (hts : ∀ w ∈ wsL_law, w.before args s = true) (hG : G (fun q => s.heap.size ≤ q) s) (hK : va_K D vwCl (zT cy) s) (hX : va_X b L xs s s.heap) (hbl : b < s.heap.size) {w mw : va_W} {i : Nat} (hi : i + 2 < L) (hL : L ≤ 1536) (hI : I w mw) (hhd : ∀ w m, I w m → zHd x0 x9 w m) (hP : va_P D vwCl (w ++ mw) H) (hD : va_D (fun q => s.heap.size ≤ q) (w ++ mw)) (hS : va_S (fun q => s.heap.size ≤ q) s.heap H locs) (ls : Array Slot) (hl : lv_has ls 9 [(0, .ref b), (1, .ref x0), (2, .ref x9), (3, .ref ow), (4, .ref od), (5, .int (nI i))]) (hrc : cells + 2 ≤ 603072) (hrs : slots + 96 ≤ 7202922) (harm : zArmS G D cy l I x9 yL_widthOf wsL_widthOf [.ref x0, .int (xs (i + 1)), .ref ow] yX6_widthOf wsX6_widthOf [.ref x9, .int (xs (i + 1))] (fun w' b => zOut ow cy w' b.toInt64) w mw) (kn : ∀ (w' m' : va_W) (H1 : Heap) (locs1 : List Loc) (ls1 : Array Slot), I w' m' → va_P D vwCl (w' ++ m') H1 → va_D (fun q => s.heap.size ≤ q) (w' ++ m') → va_S (fun q => s.heap.size ≤ q) s.heap H1 locs1 → lv_has ls1 9 [(0, .ref b), (1, .ref x0), (2, .ref x9), (3, .ref ow), (4, .ref od), (5, .int (nI i))] → W p l e room_1 s m args below meth c H1 locs1 (cells + 2) (slots + 96) Q (F0 m 2834 ls1 [])) : W p l e room_1 s m args below meth c H locs cells slots Q (F0 m 1785 ls []) := by
  refine lv_aload_n hx hb dL_law_1785 rfl (lv_at hl 1 rfl) ?_
  refine lv_aload_n hx hb dL_law_1786 rfl (lv_at hl 0 rfl) ?_
  refine lv_iload hx hb dL_law_1787 (lv_at hl 5 rfl) ?_
  refine lv_iconst (v := 1) hx hb dL_law_1789 (by decide) ?_
  refine lv_iadd hx hb dL_law_1790 ?_
  refine z_top (y := nI (i + 1)) (nI_add i 1) ?_
  refine va_sld hx hb hX hbl (Nat.not_le.mpr hbl) hS (vp_in_nI (n := i + 1) (by omega) (by omega)) dL_law_1791 ?_
  refine z_top (y := xs (i + 1)) (by rw [nI_clamp (by omega)]) ?_
  refine lv_aload_n hx hb dL_law_1792 rfl (lv_at hl 3 rfl) ?_
  obtain ⟨Φ, Ψ, hM1, hM2, hpure⟩ := harm
  refine zlS (As := [.ref x0, .int (xs (i + 1)), .ref ow]) (rest := []) (hh := [(0, 9, 12, 13)]) hg.1.1.1.1.1 ⟨hx, hb, hml, hown, hts⟩ hM1 (vx_cwSW 3 hts gL_law_L_widthOf rfl rfl rfl (by decide +kernel) ⟨Nat.le_of_ble_eq_true rfl, Nat.le_of_ble_eq_true rfl⟩) hG hK hP hD hS (fun _ h => h) rfl hl.1 rfl (Nat.le_of_ble_eq_true rfl) dL_law_1793 ⟨hrc, hrs⟩ (fun w1 o1 H locs h1 hP hD hS => ?_)
  obtain ⟨k, rfl, h1⟩ := h1
  have hP := va_P_swap hP
  have hD := va_D_swap hD
  refine lv_istore (lv' := [(6, .int k), (0, .ref b), (1, .ref x0), (2, .ref x9), (3, .ref ow), (4, .ref od), (5, .int (nI i))]) hx hb dL_law_1796 hl (by decide) rfl (fun ls hl => ?_)
  refine lv_aload_n hx hb dL_law_1798 rfl (lv_at hl 3 rfl) ?_
  refine lv_aload_n hx hb dL_law_1799 rfl (lv_at hl 1 rfl) ?_
  refine lv_iload hx hb dL_law_1800 (lv_at hl 6 rfl) ?_
  refine lv_iconst (v := 1) hx hb dL_law_1802 (by decide) ?_
  refine lv_iadd hx hb dL_law_1803 ?_
  refine z_top (y := nI (i + 1)) (nI_add i 1) ?_
  refine va_sld hx hb hX hbl (Nat.not_le.mpr hbl) hS (vp_in_nI (n := i + 1) (by omega) (by omega)) dL_law_1804 ?_
  refine z_top (y := xs (i + 1)) (by rw [nI_clamp (by omega)]) ?_
  obtain ⟨⟨fs0, e0⟩, fs9, e9⟩ := hhd _ _ hI
  refine zlV (ci := 10) (As := [.int (xs (i + 1))]) (rest := []) 0 hg.1.1.1.1.1 ⟨hx, hb, hml, hown, hts⟩ hM2 (cwV 1 hts gL_law_X6_widthOf rfl rfl rfl (by decide +kernel) ⟨Nat.le_of_ble_eq_true rfl, Nat.le_of_ble_eq_true rfl⟩) hG hK hP hD hS (fun _ h => h) rfl e9 rfl hl.1 rfl (Nat.le_of_ble_eq_true rfl) dL_law_1805 ⟨hrc, hrs⟩ (fun m1 o2 H locs h2 hP hD hS => ?_)
  obtain ⟨bb, rfl, h2⟩ := h2
  obtain ⟨hth, hko, hI1⟩ := hpure w1 k m1 bb h1 h2
  refine lv_istore (lv' := [(7, .int bb), (6, .int k), (0, .ref b), (1, .ref x0), (2, .ref x9), (3, .ref ow), (4, .ref od), (5, .int (nI i))]) hx hb dL_law_1808 hl (by decide) rfl (fun ls hl => ?_)
  refine lv_aload_n hx hb dL_law_1810 rfl (lv_at hl 4 rfl) ?_
  obtain ⟨⟨fs1, e1⟩, fs2, e2⟩ := hhd _ _ hI1
  refine zlV (ci := 10) (As := []) (rest := []) 0 hg.1.1.1.1.1 ⟨hx, hb, hml, hown, hts⟩ hth (cwV 0 hts gL_law_X6_thrown rfl rfl rfl (by decide +kernel) ⟨Nat.le_of_ble_eq_true rfl, Nat.le_of_ble_eq_true rfl⟩) hG hK hP hD hS (fun _ h => h) rfl e2 rfl hl.1 rfl (Nat.le_of_ble_eq_true rfl) dL_law_1811 ⟨hrc, hrs⟩ (fun m2 o3 H locs h3 hP hD hS => ?_)
  obtain ⟨em, rfl⟩ := h3
  rw [em] at hP hD
  have hP := va_P_swap hP
  have hD := va_D_swap hD
  refine lv_iload hx hb dL_law_1814 (lv_at hl 1 rfl) ?_
  refine lv_icmp_eq (tgt := 1821) hx hb dL_law_1816 (by decide) (fun c9 => ?_) (fun c9 => ?_)
  · skip
    refine lv_iload hx hb dL_law_1821 (lv_at hl 1 rfl) ?_
    refine lv_if_ne (tgt := 1838) hx hb dL_law_1823 (by decide) (fun c9 => ?_) (fun c9 => ?_)
    · skip
      refine lv_goto (tgt := 2834) hx hb dL_law_1838 (by decide) ?_
      exact kn w1 m1 H locs ls hI1 hP hD hS (lv_sub hl [2, 3, 4, 5, 6, 7] rfl)
    · skip
      obtain ⟨f, h47, hf⟩ := hko c9
      refine lv_aload_n hx hb dL_law_1826 rfl (lv_at hl 5 rfl) ?_
      refine lv_iconst (v := 0) hx hb dL_law_1827 (by decide) ?_
      refine z_top (y := nI 0) rfl ?_
      refine va_lald hx hb hK hP 47 3 (z_inl h47) rfl (vp_in_nI (n := 0) (by decide) (by decide)) dL_law_1828 ?_
      rw [show f (nI 0).toNatClampNeg = _ from hf]
      refine lv_iload hx hb dL_law_1829 (lv_at hl 0 rfl) ?_
      refine lv_i2l hx hb dL_law_1831 rfl ?_
      refine W.lcmp hx hb dL_law_1832 ?_
      refine z_top (y := 0) (lg_cmp_rf rfl) ?_
      refine lv_if_eq (tgt := 1838) hx hb dL_law_1833 (by decide) (fun c9 => ?_) (fun c9 => ?_)
      · skip
        refine lv_goto (tgt := 2834) hx hb dL_law_1838 (by decide) ?_
        exact kn w1 m1 H locs ls hI1 hP hD hS (lv_sub hl [2, 3, 4, 5, 6, 7] rfl)
      · exact absurd rfl c9
  · exact absurd rfl c9

set_option maxHeartbeats 4000000 in
set_option maxRecDepth 100000 in
/-- yarnOf -/
theorem law_36 {G : zG} (hg : zGW G) {l : Launch} {D : va_G} {cy : Nat → ClassId} {I : va_W → va_W → Prop} {x0 x9 ow od b L : Nat} {xs : Nat → Int32} {p : Program} {e : Env} {s : State} {m : MethodId} {args : Array Value} {below : List Frame} {meth : Method} {c : Code} {H : Heap} {locs : List Loc} {cells slots : Nat} {Q : State → Prop} (hx : p.tables.exec = Jvm.exec) (hb : c.code = cL_law) (hml : c.maxLocals = 9) (hown : s.vm.findClass RL = some m.cls) (hts : ∀ w ∈ wsL_law, w.before args s = true) (hG : G (fun q => s.heap.size ≤ q) s) (hK : va_K D vwCl (zT cy) s) (hX : va_X b L xs s s.heap) (hbl : b < s.heap.size) {w mw : va_W} {i : Nat} (hi : i + 2 < L) (hL : L ≤ 1536) (hI : I w mw) (hhd : ∀ w m, I w m → zHd x0 x9 w m) (hP : va_P D vwCl (w ++ mw) H) (hD : va_D (fun q => s.heap.size ≤ q) (w ++ mw)) (hS : va_S (fun q => s.heap.size ≤ q) s.heap H locs) (ls : Array Slot) (hl : lv_has ls 9 [(0, .ref b), (1, .ref x0), (2, .ref x9), (3, .ref ow), (4, .ref od), (5, .int (nI i))]) (hrc : cells + 2 ≤ 603072) (hrs : slots + 96 ≤ 7202922) (harm : zArmS G D cy l I x9 yL_yarnOf wsL_yarnOf [.ref x0, .int (xs (i + 1)), .ref ow] yX6_yarnOf wsX6_yarnOf [.ref x9, .int (xs (i + 1))] (fun w' b => zOut ow cy w' b.toInt64) w mw) (kn : ∀ (w' m' : va_W) (H1 : Heap) (locs1 : List Loc) (ls1 : Array Slot), I w' m' → va_P D vwCl (w' ++ m') H1 → va_D (fun q => s.heap.size ≤ q) (w' ++ m') → va_S (fun q => s.heap.size ≤ q) s.heap H1 locs1 → lv_has ls1 9 [(0, .ref b), (1, .ref x0), (2, .ref x9), (3, .ref ow), (4, .ref od), (5, .int (nI i))] → W p l e room_1 s m args below meth c H1 locs1 (cells + 2) (slots + 96) Q (F0 m 2834 ls1 [])) : W p l e room_1 s m args below meth c H locs cells slots Q (F0 m 1841 ls []) := by
  refine lv_aload_n hx hb dL_law_1841 rfl (lv_at hl 1 rfl) ?_
  refine lv_aload_n hx hb dL_law_1842 rfl (lv_at hl 0 rfl) ?_
  refine lv_iload hx hb dL_law_1843 (lv_at hl 5 rfl) ?_
  refine lv_iconst (v := 1) hx hb dL_law_1845 (by decide) ?_
  refine lv_iadd hx hb dL_law_1846 ?_
  refine z_top (y := nI (i + 1)) (nI_add i 1) ?_
  refine va_sld hx hb hX hbl (Nat.not_le.mpr hbl) hS (vp_in_nI (n := i + 1) (by omega) (by omega)) dL_law_1847 ?_
  refine z_top (y := xs (i + 1)) (by rw [nI_clamp (by omega)]) ?_
  refine lv_aload_n hx hb dL_law_1848 rfl (lv_at hl 3 rfl) ?_
  obtain ⟨Φ, Ψ, hM1, hM2, hpure⟩ := harm
  refine zlS (As := [.ref x0, .int (xs (i + 1)), .ref ow]) (rest := []) (hh := [(0, 9, 12, 13)]) hg.1.1.1.1.1 ⟨hx, hb, hml, hown, hts⟩ hM1 (vx_cwSW 3 hts gL_law_L_yarnOf rfl rfl rfl (by decide +kernel) ⟨Nat.le_of_ble_eq_true rfl, Nat.le_of_ble_eq_true rfl⟩) hG hK hP hD hS (fun _ h => h) rfl hl.1 rfl (Nat.le_of_ble_eq_true rfl) dL_law_1849 ⟨hrc, hrs⟩ (fun w1 o1 H locs h1 hP hD hS => ?_)
  obtain ⟨k, rfl, h1⟩ := h1
  have hP := va_P_swap hP
  have hD := va_D_swap hD
  refine lv_istore (lv' := [(6, .int k), (0, .ref b), (1, .ref x0), (2, .ref x9), (3, .ref ow), (4, .ref od), (5, .int (nI i))]) hx hb dL_law_1852 hl (by decide) rfl (fun ls hl => ?_)
  refine lv_aload_n hx hb dL_law_1854 rfl (lv_at hl 3 rfl) ?_
  refine lv_aload_n hx hb dL_law_1855 rfl (lv_at hl 1 rfl) ?_
  refine lv_iload hx hb dL_law_1856 (lv_at hl 6 rfl) ?_
  refine lv_iconst (v := 1) hx hb dL_law_1858 (by decide) ?_
  refine lv_iadd hx hb dL_law_1859 ?_
  refine z_top (y := nI (i + 1)) (nI_add i 1) ?_
  refine va_sld hx hb hX hbl (Nat.not_le.mpr hbl) hS (vp_in_nI (n := i + 1) (by omega) (by omega)) dL_law_1860 ?_
  refine z_top (y := xs (i + 1)) (by rw [nI_clamp (by omega)]) ?_
  obtain ⟨⟨fs0, e0⟩, fs9, e9⟩ := hhd _ _ hI
  refine zlV (ci := 10) (As := [.int (xs (i + 1))]) (rest := []) 0 hg.1.1.1.1.1 ⟨hx, hb, hml, hown, hts⟩ hM2 (cwV 1 hts gL_law_X6_yarnOf rfl rfl rfl (by decide +kernel) ⟨Nat.le_of_ble_eq_true rfl, Nat.le_of_ble_eq_true rfl⟩) hG hK hP hD hS (fun _ h => h) rfl e9 rfl hl.1 rfl (Nat.le_of_ble_eq_true rfl) dL_law_1861 ⟨hrc, hrs⟩ (fun m1 o2 H locs h2 hP hD hS => ?_)
  obtain ⟨bb, rfl, h2⟩ := h2
  obtain ⟨hth, hko, hI1⟩ := hpure w1 k m1 bb h1 h2
  refine lv_istore (lv' := [(7, .int bb), (6, .int k), (0, .ref b), (1, .ref x0), (2, .ref x9), (3, .ref ow), (4, .ref od), (5, .int (nI i))]) hx hb dL_law_1864 hl (by decide) rfl (fun ls hl => ?_)
  refine lv_aload_n hx hb dL_law_1866 rfl (lv_at hl 4 rfl) ?_
  obtain ⟨⟨fs1, e1⟩, fs2, e2⟩ := hhd _ _ hI1
  refine zlV (ci := 10) (As := []) (rest := []) 0 hg.1.1.1.1.1 ⟨hx, hb, hml, hown, hts⟩ hth (cwV 0 hts gL_law_X6_thrown rfl rfl rfl (by decide +kernel) ⟨Nat.le_of_ble_eq_true rfl, Nat.le_of_ble_eq_true rfl⟩) hG hK hP hD hS (fun _ h => h) rfl e2 rfl hl.1 rfl (Nat.le_of_ble_eq_true rfl) dL_law_1867 ⟨hrc, hrs⟩ (fun m2 o3 H locs h3 hP hD hS => ?_)
  obtain ⟨em, rfl⟩ := h3
  rw [em] at hP hD
  have hP := va_P_swap hP
  have hD := va_D_swap hD
  refine lv_iload hx hb dL_law_1870 (lv_at hl 1 rfl) ?_
  refine lv_icmp_eq (tgt := 1877) hx hb dL_law_1872 (by decide) (fun c9 => ?_) (fun c9 => ?_)
  · skip
    refine lv_iload hx hb dL_law_1877 (lv_at hl 1 rfl) ?_
    refine lv_if_ne (tgt := 1894) hx hb dL_law_1879 (by decide) (fun c9 => ?_) (fun c9 => ?_)
    · skip
      refine lv_goto (tgt := 2834) hx hb dL_law_1894 (by decide) ?_
      exact kn w1 m1 H locs ls hI1 hP hD hS (lv_sub hl [2, 3, 4, 5, 6, 7] rfl)
    · skip
      obtain ⟨f, h47, hf⟩ := hko c9
      refine lv_aload_n hx hb dL_law_1882 rfl (lv_at hl 5 rfl) ?_
      refine lv_iconst (v := 0) hx hb dL_law_1883 (by decide) ?_
      refine z_top (y := nI 0) rfl ?_
      refine va_lald hx hb hK hP 47 3 (z_inl h47) rfl (vp_in_nI (n := 0) (by decide) (by decide)) dL_law_1884 ?_
      rw [show f (nI 0).toNatClampNeg = _ from hf]
      refine lv_iload hx hb dL_law_1885 (lv_at hl 0 rfl) ?_
      refine lv_i2l hx hb dL_law_1887 rfl ?_
      refine W.lcmp hx hb dL_law_1888 ?_
      refine z_top (y := 0) (lg_cmp_rf rfl) ?_
      refine lv_if_eq (tgt := 1894) hx hb dL_law_1889 (by decide) (fun c9 => ?_) (fun c9 => ?_)
      · skip
        refine lv_goto (tgt := 2834) hx hb dL_law_1894 (by decide) ?_
        exact kn w1 m1 H locs ls hI1 hP hD hS (lv_sub hl [2, 3, 4, 5, 6, 7] rfl)
      · exact absurd rfl c9
  · exact absurd rfl c9

set_option maxHeartbeats 4000000 in
set_option maxRecDepth 100000 in
/-- feederOf -/
theorem law_37 {G : zG} (hg : zGW G) {l : Launch} {D : va_G} {cy : Nat → ClassId} {I : va_W → va_W → Prop} {x0 x9 ow od b L : Nat} {xs : Nat → Int32} {p : Program} {e : Env} {s : State} {m : MethodId} {args : Array Value} {below : List Frame} {meth : Method} {c : Code} {H : Heap} {locs : List Loc} {cells slots : Nat} {Q : State → Prop} (hx : p.tables.exec = Jvm.exec) (hb : c.code = cL_law) (hml : c.maxLocals = 9) (hown : s.vm.findClass RL = some m.cls) (hts : ∀ w ∈ wsL_law, w.before args s = true) (hG : G (fun q => s.heap.size ≤ q) s) (hK : va_K D vwCl (zT cy) s) (hX : va_X b L xs s s.heap) (hbl : b < s.heap.size) {w mw : va_W} {i : Nat} (hi : i + 2 < L) (hL : L ≤ 1536) (hI : I w mw) (hhd : ∀ w m, I w m → zHd x0 x9 w m) (hP : va_P D vwCl (w ++ mw) H) (hD : va_D (fun q => s.heap.size ≤ q) (w ++ mw)) (hS : va_S (fun q => s.heap.size ≤ q) s.heap H locs) (ls : Array Slot) (hl : lv_has ls 9 [(0, .ref b), (1, .ref x0), (2, .ref x9), (3, .ref ow), (4, .ref od), (5, .int (nI i))]) (hrc : cells + 2 ≤ 603072) (hrs : slots + 96 ≤ 7202922) (harm : zArmS G D cy l I x9 yL_feederOf wsL_feederOf [.ref x0, .int (xs (i + 1)), .ref ow] yX6_feederOf wsX6_feederOf [.ref x9, .int (xs (i + 1))] (fun w' b => zOut ow cy w' b.toInt64) w mw) (kn : ∀ (w' m' : va_W) (H1 : Heap) (locs1 : List Loc) (ls1 : Array Slot), I w' m' → va_P D vwCl (w' ++ m') H1 → va_D (fun q => s.heap.size ≤ q) (w' ++ m') → va_S (fun q => s.heap.size ≤ q) s.heap H1 locs1 → lv_has ls1 9 [(0, .ref b), (1, .ref x0), (2, .ref x9), (3, .ref ow), (4, .ref od), (5, .int (nI i))] → W p l e room_1 s m args below meth c H1 locs1 (cells + 2) (slots + 96) Q (F0 m 2834 ls1 [])) : W p l e room_1 s m args below meth c H locs cells slots Q (F0 m 1897 ls []) := by
  refine lv_aload_n hx hb dL_law_1897 rfl (lv_at hl 1 rfl) ?_
  refine lv_aload_n hx hb dL_law_1898 rfl (lv_at hl 0 rfl) ?_
  refine lv_iload hx hb dL_law_1899 (lv_at hl 5 rfl) ?_
  refine lv_iconst (v := 1) hx hb dL_law_1901 (by decide) ?_
  refine lv_iadd hx hb dL_law_1902 ?_
  refine z_top (y := nI (i + 1)) (nI_add i 1) ?_
  refine va_sld hx hb hX hbl (Nat.not_le.mpr hbl) hS (vp_in_nI (n := i + 1) (by omega) (by omega)) dL_law_1903 ?_
  refine z_top (y := xs (i + 1)) (by rw [nI_clamp (by omega)]) ?_
  refine lv_aload_n hx hb dL_law_1904 rfl (lv_at hl 3 rfl) ?_
  obtain ⟨Φ, Ψ, hM1, hM2, hpure⟩ := harm
  refine zlS (As := [.ref x0, .int (xs (i + 1)), .ref ow]) (rest := []) (hh := [(0, 9, 12, 13)]) hg.1.1.1.1.1 ⟨hx, hb, hml, hown, hts⟩ hM1 (vx_cwSW 3 hts gL_law_L_feederOf rfl rfl rfl (by decide +kernel) ⟨Nat.le_of_ble_eq_true rfl, Nat.le_of_ble_eq_true rfl⟩) hG hK hP hD hS (fun _ h => h) rfl hl.1 rfl (Nat.le_of_ble_eq_true rfl) dL_law_1905 ⟨hrc, hrs⟩ (fun w1 o1 H locs h1 hP hD hS => ?_)
  obtain ⟨k, rfl, h1⟩ := h1
  have hP := va_P_swap hP
  have hD := va_D_swap hD
  refine lv_istore (lv' := [(6, .int k), (0, .ref b), (1, .ref x0), (2, .ref x9), (3, .ref ow), (4, .ref od), (5, .int (nI i))]) hx hb dL_law_1908 hl (by decide) rfl (fun ls hl => ?_)
  refine lv_aload_n hx hb dL_law_1910 rfl (lv_at hl 3 rfl) ?_
  refine lv_aload_n hx hb dL_law_1911 rfl (lv_at hl 1 rfl) ?_
  refine lv_iload hx hb dL_law_1912 (lv_at hl 6 rfl) ?_
  refine lv_iconst (v := 1) hx hb dL_law_1914 (by decide) ?_
  refine lv_iadd hx hb dL_law_1915 ?_
  refine z_top (y := nI (i + 1)) (nI_add i 1) ?_
  refine va_sld hx hb hX hbl (Nat.not_le.mpr hbl) hS (vp_in_nI (n := i + 1) (by omega) (by omega)) dL_law_1916 ?_
  refine z_top (y := xs (i + 1)) (by rw [nI_clamp (by omega)]) ?_
  obtain ⟨⟨fs0, e0⟩, fs9, e9⟩ := hhd _ _ hI
  refine zlV (ci := 10) (As := [.int (xs (i + 1))]) (rest := []) 0 hg.1.1.1.1.1 ⟨hx, hb, hml, hown, hts⟩ hM2 (cwV 1 hts gL_law_X6_feederOf rfl rfl rfl (by decide +kernel) ⟨Nat.le_of_ble_eq_true rfl, Nat.le_of_ble_eq_true rfl⟩) hG hK hP hD hS (fun _ h => h) rfl e9 rfl hl.1 rfl (Nat.le_of_ble_eq_true rfl) dL_law_1917 ⟨hrc, hrs⟩ (fun m1 o2 H locs h2 hP hD hS => ?_)
  obtain ⟨bb, rfl, h2⟩ := h2
  obtain ⟨hth, hko, hI1⟩ := hpure w1 k m1 bb h1 h2
  refine lv_istore (lv' := [(7, .int bb), (6, .int k), (0, .ref b), (1, .ref x0), (2, .ref x9), (3, .ref ow), (4, .ref od), (5, .int (nI i))]) hx hb dL_law_1920 hl (by decide) rfl (fun ls hl => ?_)
  refine lv_aload_n hx hb dL_law_1922 rfl (lv_at hl 4 rfl) ?_
  obtain ⟨⟨fs1, e1⟩, fs2, e2⟩ := hhd _ _ hI1
  refine zlV (ci := 10) (As := []) (rest := []) 0 hg.1.1.1.1.1 ⟨hx, hb, hml, hown, hts⟩ hth (cwV 0 hts gL_law_X6_thrown rfl rfl rfl (by decide +kernel) ⟨Nat.le_of_ble_eq_true rfl, Nat.le_of_ble_eq_true rfl⟩) hG hK hP hD hS (fun _ h => h) rfl e2 rfl hl.1 rfl (Nat.le_of_ble_eq_true rfl) dL_law_1923 ⟨hrc, hrs⟩ (fun m2 o3 H locs h3 hP hD hS => ?_)
  obtain ⟨em, rfl⟩ := h3
  rw [em] at hP hD
  have hP := va_P_swap hP
  have hD := va_D_swap hD
  refine lv_iload hx hb dL_law_1926 (lv_at hl 1 rfl) ?_
  refine lv_icmp_eq (tgt := 1933) hx hb dL_law_1928 (by decide) (fun c9 => ?_) (fun c9 => ?_)
  · skip
    refine lv_iload hx hb dL_law_1933 (lv_at hl 1 rfl) ?_
    refine lv_if_ne (tgt := 1950) hx hb dL_law_1935 (by decide) (fun c9 => ?_) (fun c9 => ?_)
    · skip
      refine lv_goto (tgt := 2834) hx hb dL_law_1950 (by decide) ?_
      exact kn w1 m1 H locs ls hI1 hP hD hS (lv_sub hl [2, 3, 4, 5, 6, 7] rfl)
    · skip
      obtain ⟨f, h47, hf⟩ := hko c9
      refine lv_aload_n hx hb dL_law_1938 rfl (lv_at hl 5 rfl) ?_
      refine lv_iconst (v := 0) hx hb dL_law_1939 (by decide) ?_
      refine z_top (y := nI 0) rfl ?_
      refine va_lald hx hb hK hP 47 3 (z_inl h47) rfl (vp_in_nI (n := 0) (by decide) (by decide)) dL_law_1940 ?_
      rw [show f (nI 0).toNatClampNeg = _ from hf]
      refine lv_iload hx hb dL_law_1941 (lv_at hl 0 rfl) ?_
      refine lv_i2l hx hb dL_law_1943 rfl ?_
      refine W.lcmp hx hb dL_law_1944 ?_
      refine z_top (y := 0) (lg_cmp_rf rfl) ?_
      refine lv_if_eq (tgt := 1950) hx hb dL_law_1945 (by decide) (fun c9 => ?_) (fun c9 => ?_)
      · skip
        refine lv_goto (tgt := 2834) hx hb dL_law_1950 (by decide) ?_
        exact kn w1 m1 H locs ls hI1 hP hD hS (lv_sub hl [2, 3, 4, 5, 6, 7] rfl)
      · exact absurd rfl c9
  · exact absurd rfl c9

set_option maxHeartbeats 4000000 in
set_option maxRecDepth 100000 in
/-- dropsOf -/
theorem law_38 {G : zG} (hg : zGW G) {l : Launch} {D : va_G} {cy : Nat → ClassId} {I : va_W → va_W → Prop} {x0 x9 ow od b L : Nat} {xs : Nat → Int32} {p : Program} {e : Env} {s : State} {m : MethodId} {args : Array Value} {below : List Frame} {meth : Method} {c : Code} {H : Heap} {locs : List Loc} {cells slots : Nat} {Q : State → Prop} (hx : p.tables.exec = Jvm.exec) (hb : c.code = cL_law) (hml : c.maxLocals = 9) (hown : s.vm.findClass RL = some m.cls) (hts : ∀ w ∈ wsL_law, w.before args s = true) (hG : G (fun q => s.heap.size ≤ q) s) (hK : va_K D vwCl (zT cy) s) (hX : va_X b L xs s s.heap) (hbl : b < s.heap.size) {w mw : va_W} {i : Nat} (hi : i + 2 < L) (hL : L ≤ 1536) (hI : I w mw) (hhd : ∀ w m, I w m → zHd x0 x9 w m) (hP : va_P D vwCl (w ++ mw) H) (hD : va_D (fun q => s.heap.size ≤ q) (w ++ mw)) (hS : va_S (fun q => s.heap.size ≤ q) s.heap H locs) (ls : Array Slot) (hl : lv_has ls 9 [(0, .ref b), (1, .ref x0), (2, .ref x9), (3, .ref ow), (4, .ref od), (5, .int (nI i))]) (hrc : cells + 2 ≤ 603072) (hrs : slots + 96 ≤ 7202922) (harm : zArmS G D cy l I x9 yL_dropsOf wsL_dropsOf [.ref x0, .int (xs (i + 1)), .ref ow] yX6_dropsOf wsX6_dropsOf [.ref x9, .int (xs (i + 1))] (fun w' b => zOut ow cy w' b.toInt64) w mw) (kn : ∀ (w' m' : va_W) (H1 : Heap) (locs1 : List Loc) (ls1 : Array Slot), I w' m' → va_P D vwCl (w' ++ m') H1 → va_D (fun q => s.heap.size ≤ q) (w' ++ m') → va_S (fun q => s.heap.size ≤ q) s.heap H1 locs1 → lv_has ls1 9 [(0, .ref b), (1, .ref x0), (2, .ref x9), (3, .ref ow), (4, .ref od), (5, .int (nI i))] → W p l e room_1 s m args below meth c H1 locs1 (cells + 2) (slots + 96) Q (F0 m 2834 ls1 [])) : W p l e room_1 s m args below meth c H locs cells slots Q (F0 m 1953 ls []) := by
  refine lv_aload_n hx hb dL_law_1953 rfl (lv_at hl 1 rfl) ?_
  refine lv_aload_n hx hb dL_law_1954 rfl (lv_at hl 0 rfl) ?_
  refine lv_iload hx hb dL_law_1955 (lv_at hl 5 rfl) ?_
  refine lv_iconst (v := 1) hx hb dL_law_1957 (by decide) ?_
  refine lv_iadd hx hb dL_law_1958 ?_
  refine z_top (y := nI (i + 1)) (nI_add i 1) ?_
  refine va_sld hx hb hX hbl (Nat.not_le.mpr hbl) hS (vp_in_nI (n := i + 1) (by omega) (by omega)) dL_law_1959 ?_
  refine z_top (y := xs (i + 1)) (by rw [nI_clamp (by omega)]) ?_
  refine lv_aload_n hx hb dL_law_1960 rfl (lv_at hl 3 rfl) ?_
  obtain ⟨Φ, Ψ, hM1, hM2, hpure⟩ := harm
  refine zlS (As := [.ref x0, .int (xs (i + 1)), .ref ow]) (rest := []) (hh := [(0, 9, 12, 13)]) hg.1.1.1.1.1 ⟨hx, hb, hml, hown, hts⟩ hM1 (vx_cwSW 3 hts gL_law_L_dropsOf rfl rfl rfl (by decide +kernel) ⟨Nat.le_of_ble_eq_true rfl, Nat.le_of_ble_eq_true rfl⟩) hG hK hP hD hS (fun _ h => h) rfl hl.1 rfl (Nat.le_of_ble_eq_true rfl) dL_law_1961 ⟨hrc, hrs⟩ (fun w1 o1 H locs h1 hP hD hS => ?_)
  obtain ⟨k, rfl, h1⟩ := h1
  have hP := va_P_swap hP
  have hD := va_D_swap hD
  refine lv_istore (lv' := [(6, .int k), (0, .ref b), (1, .ref x0), (2, .ref x9), (3, .ref ow), (4, .ref od), (5, .int (nI i))]) hx hb dL_law_1964 hl (by decide) rfl (fun ls hl => ?_)
  refine lv_aload_n hx hb dL_law_1966 rfl (lv_at hl 3 rfl) ?_
  refine lv_aload_n hx hb dL_law_1967 rfl (lv_at hl 1 rfl) ?_
  refine lv_iload hx hb dL_law_1968 (lv_at hl 6 rfl) ?_
  refine lv_iconst (v := 1) hx hb dL_law_1970 (by decide) ?_
  refine lv_iadd hx hb dL_law_1971 ?_
  refine z_top (y := nI (i + 1)) (nI_add i 1) ?_
  refine va_sld hx hb hX hbl (Nat.not_le.mpr hbl) hS (vp_in_nI (n := i + 1) (by omega) (by omega)) dL_law_1972 ?_
  refine z_top (y := xs (i + 1)) (by rw [nI_clamp (by omega)]) ?_
  obtain ⟨⟨fs0, e0⟩, fs9, e9⟩ := hhd _ _ hI
  refine zlV (ci := 10) (As := [.int (xs (i + 1))]) (rest := []) 0 hg.1.1.1.1.1 ⟨hx, hb, hml, hown, hts⟩ hM2 (cwV 1 hts gL_law_X6_dropsOf rfl rfl rfl (by decide +kernel) ⟨Nat.le_of_ble_eq_true rfl, Nat.le_of_ble_eq_true rfl⟩) hG hK hP hD hS (fun _ h => h) rfl e9 rfl hl.1 rfl (Nat.le_of_ble_eq_true rfl) dL_law_1973 ⟨hrc, hrs⟩ (fun m1 o2 H locs h2 hP hD hS => ?_)
  obtain ⟨bb, rfl, h2⟩ := h2
  obtain ⟨hth, hko, hI1⟩ := hpure w1 k m1 bb h1 h2
  refine lv_istore (lv' := [(7, .int bb), (6, .int k), (0, .ref b), (1, .ref x0), (2, .ref x9), (3, .ref ow), (4, .ref od), (5, .int (nI i))]) hx hb dL_law_1976 hl (by decide) rfl (fun ls hl => ?_)
  refine lv_aload_n hx hb dL_law_1978 rfl (lv_at hl 4 rfl) ?_
  obtain ⟨⟨fs1, e1⟩, fs2, e2⟩ := hhd _ _ hI1
  refine zlV (ci := 10) (As := []) (rest := []) 0 hg.1.1.1.1.1 ⟨hx, hb, hml, hown, hts⟩ hth (cwV 0 hts gL_law_X6_thrown rfl rfl rfl (by decide +kernel) ⟨Nat.le_of_ble_eq_true rfl, Nat.le_of_ble_eq_true rfl⟩) hG hK hP hD hS (fun _ h => h) rfl e2 rfl hl.1 rfl (Nat.le_of_ble_eq_true rfl) dL_law_1979 ⟨hrc, hrs⟩ (fun m2 o3 H locs h3 hP hD hS => ?_)
  obtain ⟨em, rfl⟩ := h3
  rw [em] at hP hD
  have hP := va_P_swap hP
  have hD := va_D_swap hD
  refine lv_iload hx hb dL_law_1982 (lv_at hl 1 rfl) ?_
  refine lv_icmp_eq (tgt := 1989) hx hb dL_law_1984 (by decide) (fun c9 => ?_) (fun c9 => ?_)
  · skip
    refine lv_iload hx hb dL_law_1989 (lv_at hl 1 rfl) ?_
    refine lv_if_ne (tgt := 2006) hx hb dL_law_1991 (by decide) (fun c9 => ?_) (fun c9 => ?_)
    · skip
      refine lv_goto (tgt := 2834) hx hb dL_law_2006 (by decide) ?_
      exact kn w1 m1 H locs ls hI1 hP hD hS (lv_sub hl [2, 3, 4, 5, 6, 7] rfl)
    · skip
      obtain ⟨f, h47, hf⟩ := hko c9
      refine lv_aload_n hx hb dL_law_1994 rfl (lv_at hl 5 rfl) ?_
      refine lv_iconst (v := 0) hx hb dL_law_1995 (by decide) ?_
      refine z_top (y := nI 0) rfl ?_
      refine va_lald hx hb hK hP 47 3 (z_inl h47) rfl (vp_in_nI (n := 0) (by decide) (by decide)) dL_law_1996 ?_
      rw [show f (nI 0).toNatClampNeg = _ from hf]
      refine lv_iload hx hb dL_law_1997 (lv_at hl 0 rfl) ?_
      refine lv_i2l hx hb dL_law_1999 rfl ?_
      refine W.lcmp hx hb dL_law_2000 ?_
      refine z_top (y := 0) (lg_cmp_rf rfl) ?_
      refine lv_if_eq (tgt := 2006) hx hb dL_law_2001 (by decide) (fun c9 => ?_) (fun c9 => ?_)
      · skip
        refine lv_goto (tgt := 2834) hx hb dL_law_2006 (by decide) ?_
        exact kn w1 m1 H locs ls hI1 hP hD hS (lv_sub hl [2, 3, 4, 5, 6, 7] rfl)
      · exact absurd rfl c9
  · exact absurd rfl c9

set_option maxHeartbeats 4000000 in
set_option maxRecDepth 100000 in
/-- courseByWidth -/
theorem law_39 {G : zG} (hg : zGW G) {l : Launch} {D : va_G} {cy : Nat → ClassId} {I : va_W → va_W → Prop} {x0 x9 ow od b L : Nat} {xs : Nat → Int32} {p : Program} {e : Env} {s : State} {m : MethodId} {args : Array Value} {below : List Frame} {meth : Method} {c : Code} {H : Heap} {locs : List Loc} {cells slots : Nat} {Q : State → Prop} (hx : p.tables.exec = Jvm.exec) (hb : c.code = cL_law) (hml : c.maxLocals = 9) (hown : s.vm.findClass RL = some m.cls) (hts : ∀ w ∈ wsL_law, w.before args s = true) (hG : G (fun q => s.heap.size ≤ q) s) (hK : va_K D vwCl (zT cy) s) (hX : va_X b L xs s s.heap) (hbl : b < s.heap.size) {w mw : va_W} {i : Nat} (hi : i + 2 < L) (hL : L ≤ 1536) (hI : I w mw) (hhd : ∀ w m, I w m → zHd x0 x9 w m) (hP : va_P D vwCl (w ++ mw) H) (hD : va_D (fun q => s.heap.size ≤ q) (w ++ mw)) (hS : va_S (fun q => s.heap.size ≤ q) s.heap H locs) (ls : Array Slot) (hl : lv_has ls 9 [(0, .ref b), (1, .ref x0), (2, .ref x9), (3, .ref ow), (4, .ref od), (5, .int (nI i))]) (hrc : cells + 2 ≤ 603072) (hrs : slots + 96 ≤ 7202922) (harm : zArmS G D cy l I x9 yL_courseByWidth wsL_courseByWidth [.ref x0, .int (xs (i + 1)), .ref ow] yX6_courseByWidth wsX6_courseByWidth [.ref x9, .int (xs (i + 1))] (fun w' b => zOut ow cy w' b.toInt64) w mw) (kn : ∀ (w' m' : va_W) (H1 : Heap) (locs1 : List Loc) (ls1 : Array Slot), I w' m' → va_P D vwCl (w' ++ m') H1 → va_D (fun q => s.heap.size ≤ q) (w' ++ m') → va_S (fun q => s.heap.size ≤ q) s.heap H1 locs1 → lv_has ls1 9 [(0, .ref b), (1, .ref x0), (2, .ref x9), (3, .ref ow), (4, .ref od), (5, .int (nI i))] → W p l e room_1 s m args below meth c H1 locs1 (cells + 2) (slots + 96) Q (F0 m 2834 ls1 [])) : W p l e room_1 s m args below meth c H locs cells slots Q (F0 m 2009 ls []) := by
  refine lv_aload_n hx hb dL_law_2009 rfl (lv_at hl 1 rfl) ?_
  refine lv_aload_n hx hb dL_law_2010 rfl (lv_at hl 0 rfl) ?_
  refine lv_iload hx hb dL_law_2011 (lv_at hl 5 rfl) ?_
  refine lv_iconst (v := 1) hx hb dL_law_2013 (by decide) ?_
  refine lv_iadd hx hb dL_law_2014 ?_
  refine z_top (y := nI (i + 1)) (nI_add i 1) ?_
  refine va_sld hx hb hX hbl (Nat.not_le.mpr hbl) hS (vp_in_nI (n := i + 1) (by omega) (by omega)) dL_law_2015 ?_
  refine z_top (y := xs (i + 1)) (by rw [nI_clamp (by omega)]) ?_
  refine lv_aload_n hx hb dL_law_2016 rfl (lv_at hl 3 rfl) ?_
  obtain ⟨Φ, Ψ, hM1, hM2, hpure⟩ := harm
  refine zlS (As := [.ref x0, .int (xs (i + 1)), .ref ow]) (rest := []) (hh := [(0, 9, 12, 53)]) hg.1.1.1.1.1 ⟨hx, hb, hml, hown, hts⟩ hM1 (vx_cwSW 3 hts gL_law_L_courseByWidth rfl rfl rfl (by decide +kernel) ⟨Nat.le_of_ble_eq_true rfl, Nat.le_of_ble_eq_true rfl⟩) hG hK hP hD hS (fun _ h => h) rfl hl.1 rfl (Nat.le_of_ble_eq_true rfl) dL_law_2017 ⟨hrc, hrs⟩ (fun w1 o1 H locs h1 hP hD hS => ?_)
  obtain ⟨k, rfl, h1⟩ := h1
  have hP := va_P_swap hP
  have hD := va_D_swap hD
  refine lv_istore (lv' := [(6, .int k), (0, .ref b), (1, .ref x0), (2, .ref x9), (3, .ref ow), (4, .ref od), (5, .int (nI i))]) hx hb dL_law_2020 hl (by decide) rfl (fun ls hl => ?_)
  refine lv_aload_n hx hb dL_law_2022 rfl (lv_at hl 3 rfl) ?_
  refine lv_aload_n hx hb dL_law_2023 rfl (lv_at hl 1 rfl) ?_
  refine lv_iload hx hb dL_law_2024 (lv_at hl 6 rfl) ?_
  refine lv_iconst (v := 1) hx hb dL_law_2026 (by decide) ?_
  refine lv_iadd hx hb dL_law_2027 ?_
  refine z_top (y := nI (i + 1)) (nI_add i 1) ?_
  refine va_sld hx hb hX hbl (Nat.not_le.mpr hbl) hS (vp_in_nI (n := i + 1) (by omega) (by omega)) dL_law_2028 ?_
  refine z_top (y := xs (i + 1)) (by rw [nI_clamp (by omega)]) ?_
  obtain ⟨⟨fs0, e0⟩, fs9, e9⟩ := hhd _ _ hI
  refine zlV (ci := 10) (As := [.int (xs (i + 1))]) (rest := []) 0 hg.1.1.1.1.1 ⟨hx, hb, hml, hown, hts⟩ hM2 (cwV 1 hts gL_law_X6_courseByWidth rfl rfl rfl (by decide +kernel) ⟨Nat.le_of_ble_eq_true rfl, Nat.le_of_ble_eq_true rfl⟩) hG hK hP hD hS (fun _ h => h) rfl e9 rfl hl.1 rfl (Nat.le_of_ble_eq_true rfl) dL_law_2029 ⟨hrc, hrs⟩ (fun m1 o2 H locs h2 hP hD hS => ?_)
  obtain ⟨bb, rfl, h2⟩ := h2
  obtain ⟨hth, hko, hI1⟩ := hpure w1 k m1 bb h1 h2
  refine lv_istore (lv' := [(7, .int bb), (6, .int k), (0, .ref b), (1, .ref x0), (2, .ref x9), (3, .ref ow), (4, .ref od), (5, .int (nI i))]) hx hb dL_law_2032 hl (by decide) rfl (fun ls hl => ?_)
  refine lv_aload_n hx hb dL_law_2034 rfl (lv_at hl 4 rfl) ?_
  obtain ⟨⟨fs1, e1⟩, fs2, e2⟩ := hhd _ _ hI1
  refine zlV (ci := 10) (As := []) (rest := []) 0 hg.1.1.1.1.1 ⟨hx, hb, hml, hown, hts⟩ hth (cwV 0 hts gL_law_X6_thrown rfl rfl rfl (by decide +kernel) ⟨Nat.le_of_ble_eq_true rfl, Nat.le_of_ble_eq_true rfl⟩) hG hK hP hD hS (fun _ h => h) rfl e2 rfl hl.1 rfl (Nat.le_of_ble_eq_true rfl) dL_law_2035 ⟨hrc, hrs⟩ (fun m2 o3 H locs h3 hP hD hS => ?_)
  obtain ⟨em, rfl⟩ := h3
  rw [em] at hP hD
  have hP := va_P_swap hP
  have hD := va_D_swap hD
  refine lv_iload hx hb dL_law_2038 (lv_at hl 1 rfl) ?_
  refine lv_icmp_eq (tgt := 2045) hx hb dL_law_2040 (by decide) (fun c9 => ?_) (fun c9 => ?_)
  · skip
    refine lv_iload hx hb dL_law_2045 (lv_at hl 1 rfl) ?_
    refine lv_if_ne (tgt := 2062) hx hb dL_law_2047 (by decide) (fun c9 => ?_) (fun c9 => ?_)
    · skip
      refine lv_goto (tgt := 2834) hx hb dL_law_2062 (by decide) ?_
      exact kn w1 m1 H locs ls hI1 hP hD hS (lv_sub hl [2, 3, 4, 5, 6, 7] rfl)
    · skip
      obtain ⟨f, h47, hf⟩ := hko c9
      refine lv_aload_n hx hb dL_law_2050 rfl (lv_at hl 5 rfl) ?_
      refine lv_iconst (v := 0) hx hb dL_law_2051 (by decide) ?_
      refine z_top (y := nI 0) rfl ?_
      refine va_lald hx hb hK hP 47 3 (z_inl h47) rfl (vp_in_nI (n := 0) (by decide) (by decide)) dL_law_2052 ?_
      rw [show f (nI 0).toNatClampNeg = _ from hf]
      refine lv_iload hx hb dL_law_2053 (lv_at hl 0 rfl) ?_
      refine lv_i2l hx hb dL_law_2055 rfl ?_
      refine W.lcmp hx hb dL_law_2056 ?_
      refine z_top (y := 0) (lg_cmp_rf rfl) ?_
      refine lv_if_eq (tgt := 2062) hx hb dL_law_2057 (by decide) (fun c9 => ?_) (fun c9 => ?_)
      · skip
        refine lv_goto (tgt := 2834) hx hb dL_law_2062 (by decide) ?_
        exact kn w1 m1 H locs ls hI1 hP hD hS (lv_sub hl [2, 3, 4, 5, 6, 7] rfl)
      · exact absurd rfl c9
  · exact absurd rfl c9

set_option maxHeartbeats 4000000 in
set_option maxRecDepth 100000 in
/-- feederByYarn -/
theorem law_40 {G : zG} (hg : zGW G) {l : Launch} {D : va_G} {cy : Nat → ClassId} {I : va_W → va_W → Prop} {x0 x9 ow od b L : Nat} {xs : Nat → Int32} {p : Program} {e : Env} {s : State} {m : MethodId} {args : Array Value} {below : List Frame} {meth : Method} {c : Code} {H : Heap} {locs : List Loc} {cells slots : Nat} {Q : State → Prop} (hx : p.tables.exec = Jvm.exec) (hb : c.code = cL_law) (hml : c.maxLocals = 9) (hown : s.vm.findClass RL = some m.cls) (hts : ∀ w ∈ wsL_law, w.before args s = true) (hG : G (fun q => s.heap.size ≤ q) s) (hK : va_K D vwCl (zT cy) s) (hX : va_X b L xs s s.heap) (hbl : b < s.heap.size) {w mw : va_W} {i : Nat} (hi : i + 2 < L) (hL : L ≤ 1536) (hI : I w mw) (hhd : ∀ w m, I w m → zHd x0 x9 w m) (hP : va_P D vwCl (w ++ mw) H) (hD : va_D (fun q => s.heap.size ≤ q) (w ++ mw)) (hS : va_S (fun q => s.heap.size ≤ q) s.heap H locs) (ls : Array Slot) (hl : lv_has ls 9 [(0, .ref b), (1, .ref x0), (2, .ref x9), (3, .ref ow), (4, .ref od), (5, .int (nI i))]) (hrc : cells + 2 ≤ 603072) (hrs : slots + 96 ≤ 7202922) (harm : zArmS G D cy l I x9 yL_feederByYarn wsL_feederByYarn [.ref x0, .int (xs (i + 1)), .ref ow] yX6_feederByYarn wsX6_feederByYarn [.ref x9, .int (xs (i + 1))] (fun w' b => zOut ow cy w' b.toInt64) w mw) (kn : ∀ (w' m' : va_W) (H1 : Heap) (locs1 : List Loc) (ls1 : Array Slot), I w' m' → va_P D vwCl (w' ++ m') H1 → va_D (fun q => s.heap.size ≤ q) (w' ++ m') → va_S (fun q => s.heap.size ≤ q) s.heap H1 locs1 → lv_has ls1 9 [(0, .ref b), (1, .ref x0), (2, .ref x9), (3, .ref ow), (4, .ref od), (5, .int (nI i))] → W p l e room_1 s m args below meth c H1 locs1 (cells + 2) (slots + 96) Q (F0 m 2834 ls1 [])) : W p l e room_1 s m args below meth c H locs cells slots Q (F0 m 2065 ls []) := by
  refine lv_aload_n hx hb dL_law_2065 rfl (lv_at hl 1 rfl) ?_
  refine lv_aload_n hx hb dL_law_2066 rfl (lv_at hl 0 rfl) ?_
  refine lv_iload hx hb dL_law_2067 (lv_at hl 5 rfl) ?_
  refine lv_iconst (v := 1) hx hb dL_law_2069 (by decide) ?_
  refine lv_iadd hx hb dL_law_2070 ?_
  refine z_top (y := nI (i + 1)) (nI_add i 1) ?_
  refine va_sld hx hb hX hbl (Nat.not_le.mpr hbl) hS (vp_in_nI (n := i + 1) (by omega) (by omega)) dL_law_2071 ?_
  refine z_top (y := xs (i + 1)) (by rw [nI_clamp (by omega)]) ?_
  refine lv_aload_n hx hb dL_law_2072 rfl (lv_at hl 3 rfl) ?_
  obtain ⟨Φ, Ψ, hM1, hM2, hpure⟩ := harm
  refine zlS (As := [.ref x0, .int (xs (i + 1)), .ref ow]) (rest := []) (hh := [(0, 9, 12, 53)]) hg.1.1.1.1.1 ⟨hx, hb, hml, hown, hts⟩ hM1 (vx_cwSW 3 hts gL_law_L_feederByYarn rfl rfl rfl (by decide +kernel) ⟨Nat.le_of_ble_eq_true rfl, Nat.le_of_ble_eq_true rfl⟩) hG hK hP hD hS (fun _ h => h) rfl hl.1 rfl (Nat.le_of_ble_eq_true rfl) dL_law_2073 ⟨hrc, hrs⟩ (fun w1 o1 H locs h1 hP hD hS => ?_)
  obtain ⟨k, rfl, h1⟩ := h1
  have hP := va_P_swap hP
  have hD := va_D_swap hD
  refine lv_istore (lv' := [(6, .int k), (0, .ref b), (1, .ref x0), (2, .ref x9), (3, .ref ow), (4, .ref od), (5, .int (nI i))]) hx hb dL_law_2076 hl (by decide) rfl (fun ls hl => ?_)
  refine lv_aload_n hx hb dL_law_2078 rfl (lv_at hl 3 rfl) ?_
  refine lv_aload_n hx hb dL_law_2079 rfl (lv_at hl 1 rfl) ?_
  refine lv_iload hx hb dL_law_2080 (lv_at hl 6 rfl) ?_
  refine lv_iconst (v := 1) hx hb dL_law_2082 (by decide) ?_
  refine lv_iadd hx hb dL_law_2083 ?_
  refine z_top (y := nI (i + 1)) (nI_add i 1) ?_
  refine va_sld hx hb hX hbl (Nat.not_le.mpr hbl) hS (vp_in_nI (n := i + 1) (by omega) (by omega)) dL_law_2084 ?_
  refine z_top (y := xs (i + 1)) (by rw [nI_clamp (by omega)]) ?_
  obtain ⟨⟨fs0, e0⟩, fs9, e9⟩ := hhd _ _ hI
  refine zlV (ci := 10) (As := [.int (xs (i + 1))]) (rest := []) 0 hg.1.1.1.1.1 ⟨hx, hb, hml, hown, hts⟩ hM2 (cwV 1 hts gL_law_X6_feederByYarn rfl rfl rfl (by decide +kernel) ⟨Nat.le_of_ble_eq_true rfl, Nat.le_of_ble_eq_true rfl⟩) hG hK hP hD hS (fun _ h => h) rfl e9 rfl hl.1 rfl (Nat.le_of_ble_eq_true rfl) dL_law_2085 ⟨hrc, hrs⟩ (fun m1 o2 H locs h2 hP hD hS => ?_)
  obtain ⟨bb, rfl, h2⟩ := h2
  obtain ⟨hth, hko, hI1⟩ := hpure w1 k m1 bb h1 h2
  refine lv_istore (lv' := [(7, .int bb), (6, .int k), (0, .ref b), (1, .ref x0), (2, .ref x9), (3, .ref ow), (4, .ref od), (5, .int (nI i))]) hx hb dL_law_2088 hl (by decide) rfl (fun ls hl => ?_)
  refine lv_aload_n hx hb dL_law_2090 rfl (lv_at hl 4 rfl) ?_
  obtain ⟨⟨fs1, e1⟩, fs2, e2⟩ := hhd _ _ hI1
  refine zlV (ci := 10) (As := []) (rest := []) 0 hg.1.1.1.1.1 ⟨hx, hb, hml, hown, hts⟩ hth (cwV 0 hts gL_law_X6_thrown rfl rfl rfl (by decide +kernel) ⟨Nat.le_of_ble_eq_true rfl, Nat.le_of_ble_eq_true rfl⟩) hG hK hP hD hS (fun _ h => h) rfl e2 rfl hl.1 rfl (Nat.le_of_ble_eq_true rfl) dL_law_2091 ⟨hrc, hrs⟩ (fun m2 o3 H locs h3 hP hD hS => ?_)
  obtain ⟨em, rfl⟩ := h3
  rw [em] at hP hD
  have hP := va_P_swap hP
  have hD := va_D_swap hD
  refine lv_iload hx hb dL_law_2094 (lv_at hl 1 rfl) ?_
  refine lv_icmp_eq (tgt := 2101) hx hb dL_law_2096 (by decide) (fun c9 => ?_) (fun c9 => ?_)
  · skip
    refine lv_iload hx hb dL_law_2101 (lv_at hl 1 rfl) ?_
    refine lv_if_ne (tgt := 2118) hx hb dL_law_2103 (by decide) (fun c9 => ?_) (fun c9 => ?_)
    · skip
      refine lv_goto (tgt := 2834) hx hb dL_law_2118 (by decide) ?_
      exact kn w1 m1 H locs ls hI1 hP hD hS (lv_sub hl [2, 3, 4, 5, 6, 7] rfl)
    · skip
      obtain ⟨f, h47, hf⟩ := hko c9
      refine lv_aload_n hx hb dL_law_2106 rfl (lv_at hl 5 rfl) ?_
      refine lv_iconst (v := 0) hx hb dL_law_2107 (by decide) ?_
      refine z_top (y := nI 0) rfl ?_
      refine va_lald hx hb hK hP 47 3 (z_inl h47) rfl (vp_in_nI (n := 0) (by decide) (by decide)) dL_law_2108 ?_
      rw [show f (nI 0).toNatClampNeg = _ from hf]
      refine lv_iload hx hb dL_law_2109 (lv_at hl 0 rfl) ?_
      refine lv_i2l hx hb dL_law_2111 rfl ?_
      refine W.lcmp hx hb dL_law_2112 ?_
      refine z_top (y := 0) (lg_cmp_rf rfl) ?_
      refine lv_if_eq (tgt := 2118) hx hb dL_law_2113 (by decide) (fun c9 => ?_) (fun c9 => ?_)
      · skip
        refine lv_goto (tgt := 2834) hx hb dL_law_2118 (by decide) ?_
        exact kn w1 m1 H locs ls hI1 hP hD hS (lv_sub hl [2, 3, 4, 5, 6, 7] rfl)
      · exact absurd rfl c9
  · exact absurd rfl c9

set_option maxHeartbeats 4000000 in
set_option maxRecDepth 100000 in
/-- stitchCount -/
theorem law_41 {G : zG} (hg : zGW G) {l : Launch} {D : va_G} {cy : Nat → ClassId} {I : va_W → va_W → Prop} {x0 x9 ow od b L : Nat} {xs : Nat → Int32} {p : Program} {e : Env} {s : State} {m : MethodId} {args : Array Value} {below : List Frame} {meth : Method} {c : Code} {H : Heap} {locs : List Loc} {cells slots : Nat} {Q : State → Prop} (hx : p.tables.exec = Jvm.exec) (hb : c.code = cL_law) (hml : c.maxLocals = 9) (hown : s.vm.findClass RL = some m.cls) (hts : ∀ w ∈ wsL_law, w.before args s = true) (hG : G (fun q => s.heap.size ≤ q) s) (hK : va_K D vwCl (zT cy) s) (hX : va_X b L xs s s.heap) (hbl : b < s.heap.size) {w mw : va_W} {i : Nat} (hi : i + 2 < L) (hL : L ≤ 1536) (hI : I w mw) (hhd : ∀ w m, I w m → zHd x0 x9 w m) (hP : va_P D vwCl (w ++ mw) H) (hD : va_D (fun q => s.heap.size ≤ q) (w ++ mw)) (hS : va_S (fun q => s.heap.size ≤ q) s.heap H locs) (ls : Array Slot) (hl : lv_has ls 9 [(0, .ref b), (1, .ref x0), (2, .ref x9), (3, .ref ow), (4, .ref od), (5, .int (nI i))]) (hrc : cells + 2 ≤ 603072) (hrs : slots + 96 ≤ 7202922) (harm : zArmD G D cy l I yX5_stitchCount wsX5_stitchCount [.ref x0] yX6_stitchCount wsX6_stitchCount [.ref x9] w mw) (kn : ∀ (w' m' : va_W) (H1 : Heap) (locs1 : List Loc) (ls1 : Array Slot), I w' m' → va_P D vwCl (w' ++ m') H1 → va_D (fun q => s.heap.size ≤ q) (w' ++ m') → va_S (fun q => s.heap.size ≤ q) s.heap H1 locs1 → lv_has ls1 9 [(0, .ref b), (1, .ref x0), (2, .ref x9), (3, .ref ow), (4, .ref od), (5, .int (nI i))] → W p l e room_1 s m args below meth c H1 locs1 (cells + 2) (slots + 96) Q (F0 m 2834 ls1 [])) : W p l e room_1 s m args below meth c H locs cells slots Q (F0 m 2121 ls []) := by
  refine lv_aload_n hx hb dL_law_2121 rfl (lv_at hl 1 rfl) ?_
  obtain ⟨Φ, Ψ, hM1, hM2, hpure⟩ := harm
  obtain ⟨⟨fs0, e0⟩, fs9, e9⟩ := hhd _ _ hI
  refine zlV (ci := 9) (As := []) (rest := []) 0 hg.1.1.1.1.1 ⟨hx, hb, hml, hown, hts⟩ hM1 (cwV 0 hts gL_law_X5_stitchCount rfl rfl rfl (by decide +kernel) ⟨Nat.le_of_ble_eq_true rfl, Nat.le_of_ble_eq_true rfl⟩) hG hK hP hD hS (fun _ h => h) rfl e0 rfl hl.1 rfl (Nat.le_of_ble_eq_true rfl) dL_law_2122 ⟨hrc, hrs⟩ (fun w1 o1 H locs h1 hP hD hS => ?_)
  obtain ⟨k, rfl, h1⟩ := h1
  have hP := va_P_swap hP
  have hD := va_D_swap hD
  refine lv_aload_n hx hb dL_law_2125 rfl (lv_at hl 2 rfl) ?_
  refine zlV (ci := 10) (As := []) (rest := [.int k]) 0 hg.1.1.1.1.1 ⟨hx, hb, hml, hown, hts⟩ hM2 (cwV 0 hts gL_law_X6_stitchCount rfl rfl rfl (by decide +kernel) ⟨Nat.le_of_ble_eq_true rfl, Nat.le_of_ble_eq_true rfl⟩) hG hK hP hD hS (fun _ h => h) rfl e9 rfl hl.1 rfl (Nat.le_of_ble_eq_true rfl) dL_law_2126 ⟨hrc, hrs⟩ (fun m1 o2 H locs h2 hP hD hS => ?_)
  obtain ⟨bb, rfl, h2⟩ := h2
  obtain ⟨hkb, hI1⟩ := hpure w1 k m1 bb h1 h2
  have hP := va_P_swap hP
  have hD := va_D_swap hD
  refine lv_icmp_eq (tgt := 2834) hx hb dL_law_2129 (by decide) (fun c9 => ?_) (fun c9 => ?_)
  · skip
    exact kn w1 m1 H locs ls hI1 hP hD hS (lv_sub hl [0, 1, 2, 3, 4, 5] rfl)
  · exact absurd hkb c9

set_option maxHeartbeats 4000000 in
set_option maxRecDepth 100000 in
/-- finishedShawls -/
theorem law_42 {G : zG} (hg : zGW G) {l : Launch} {D : va_G} {cy : Nat → ClassId} {I : va_W → va_W → Prop} {x0 x9 ow od b L : Nat} {xs : Nat → Int32} {p : Program} {e : Env} {s : State} {m : MethodId} {args : Array Value} {below : List Frame} {meth : Method} {c : Code} {H : Heap} {locs : List Loc} {cells slots : Nat} {Q : State → Prop} (hx : p.tables.exec = Jvm.exec) (hb : c.code = cL_law) (hml : c.maxLocals = 9) (hown : s.vm.findClass RL = some m.cls) (hts : ∀ w ∈ wsL_law, w.before args s = true) (hG : G (fun q => s.heap.size ≤ q) s) (hK : va_K D vwCl (zT cy) s) (hX : va_X b L xs s s.heap) (hbl : b < s.heap.size) {w mw : va_W} {i : Nat} (hi : i + 2 < L) (hL : L ≤ 1536) (hI : I w mw) (hhd : ∀ w m, I w m → zHd x0 x9 w m) (hP : va_P D vwCl (w ++ mw) H) (hD : va_D (fun q => s.heap.size ≤ q) (w ++ mw)) (hS : va_S (fun q => s.heap.size ≤ q) s.heap H locs) (ls : Array Slot) (hl : lv_has ls 9 [(0, .ref b), (1, .ref x0), (2, .ref x9), (3, .ref ow), (4, .ref od), (5, .int (nI i))]) (hrc : cells + 2 ≤ 603072) (hrs : slots + 96 ≤ 7202922) (harm : zArmD G D cy l I yX5_finishedShawls wsX5_finishedShawls [.ref x0] yX6_finishedShawls wsX6_finishedShawls [.ref x9] w mw) (kn : ∀ (w' m' : va_W) (H1 : Heap) (locs1 : List Loc) (ls1 : Array Slot), I w' m' → va_P D vwCl (w' ++ m') H1 → va_D (fun q => s.heap.size ≤ q) (w' ++ m') → va_S (fun q => s.heap.size ≤ q) s.heap H1 locs1 → lv_has ls1 9 [(0, .ref b), (1, .ref x0), (2, .ref x9), (3, .ref ow), (4, .ref od), (5, .int (nI i))] → W p l e room_1 s m args below meth c H1 locs1 (cells + 2) (slots + 96) Q (F0 m 2834 ls1 [])) : W p l e room_1 s m args below meth c H locs cells slots Q (F0 m 2134 ls []) := by
  refine lv_aload_n hx hb dL_law_2134 rfl (lv_at hl 1 rfl) ?_
  obtain ⟨Φ, Ψ, hM1, hM2, hpure⟩ := harm
  obtain ⟨⟨fs0, e0⟩, fs9, e9⟩ := hhd _ _ hI
  refine zlV (ci := 9) (As := []) (rest := []) 0 hg.1.1.1.1.1 ⟨hx, hb, hml, hown, hts⟩ hM1 (cwV 0 hts gL_law_X5_finishedShawls rfl rfl rfl (by decide +kernel) ⟨Nat.le_of_ble_eq_true rfl, Nat.le_of_ble_eq_true rfl⟩) hG hK hP hD hS (fun _ h => h) rfl e0 rfl hl.1 rfl (Nat.le_of_ble_eq_true rfl) dL_law_2135 ⟨hrc, hrs⟩ (fun w1 o1 H locs h1 hP hD hS => ?_)
  obtain ⟨k, rfl, h1⟩ := h1
  have hP := va_P_swap hP
  have hD := va_D_swap hD
  refine lv_aload_n hx hb dL_law_2138 rfl (lv_at hl 2 rfl) ?_
  refine zlV (ci := 10) (As := []) (rest := [.int k]) 0 hg.1.1.1.1.1 ⟨hx, hb, hml, hown, hts⟩ hM2 (cwV 0 hts gL_law_X6_finishedShawls rfl rfl rfl (by decide +kernel) ⟨Nat.le_of_ble_eq_true rfl, Nat.le_of_ble_eq_true rfl⟩) hG hK hP hD hS (fun _ h => h) rfl e9 rfl hl.1 rfl (Nat.le_of_ble_eq_true rfl) dL_law_2139 ⟨hrc, hrs⟩ (fun m1 o2 H locs h2 hP hD hS => ?_)
  obtain ⟨bb, rfl, h2⟩ := h2
  obtain ⟨hkb, hI1⟩ := hpure w1 k m1 bb h1 h2
  have hP := va_P_swap hP
  have hD := va_D_swap hD
  refine lv_icmp_eq (tgt := 2834) hx hb dL_law_2142 (by decide) (fun c9 => ?_) (fun c9 => ?_)
  · skip
    exact kn w1 m1 H locs ls hI1 hP hD hS (lv_sub hl [0, 1, 2, 3, 4, 5] rfl)
  · exact absurd hkb c9

set_option maxHeartbeats 4000000 in
set_option maxRecDepth 100000 in
/-- yarnAdded -/
theorem law_43 {G : zG} (hg : zGW G) {l : Launch} {D : va_G} {cy : Nat → ClassId} {I : va_W → va_W → Prop} {x0 x9 ow od b L : Nat} {xs : Nat → Int32} {p : Program} {e : Env} {s : State} {m : MethodId} {args : Array Value} {below : List Frame} {meth : Method} {c : Code} {H : Heap} {locs : List Loc} {cells slots : Nat} {Q : State → Prop} (hx : p.tables.exec = Jvm.exec) (hb : c.code = cL_law) (hml : c.maxLocals = 9) (hown : s.vm.findClass RL = some m.cls) (hts : ∀ w ∈ wsL_law, w.before args s = true) (hG : G (fun q => s.heap.size ≤ q) s) (hK : va_K D vwCl (zT cy) s) (hX : va_X b L xs s s.heap) (hbl : b < s.heap.size) {w mw : va_W} {i : Nat} (hi : i + 2 < L) (hL : L ≤ 1536) (hI : I w mw) (hhd : ∀ w m, I w m → zHd x0 x9 w m) (hP : va_P D vwCl (w ++ mw) H) (hD : va_D (fun q => s.heap.size ≤ q) (w ++ mw)) (hS : va_S (fun q => s.heap.size ≤ q) s.heap H locs) (ls : Array Slot) (hl : lv_has ls 9 [(0, .ref b), (1, .ref x0), (2, .ref x9), (3, .ref ow), (4, .ref od), (5, .int (nI i))]) (hrc : cells + 2 ≤ 603072) (hrs : slots + 96 ≤ 7202922) (harm : zArmD G D cy l I yX5_yarnAdded wsX5_yarnAdded [.ref x0] yX6_yarnAdded wsX6_yarnAdded [.ref x9] w mw) (kn : ∀ (w' m' : va_W) (H1 : Heap) (locs1 : List Loc) (ls1 : Array Slot), I w' m' → va_P D vwCl (w' ++ m') H1 → va_D (fun q => s.heap.size ≤ q) (w' ++ m') → va_S (fun q => s.heap.size ≤ q) s.heap H1 locs1 → lv_has ls1 9 [(0, .ref b), (1, .ref x0), (2, .ref x9), (3, .ref ow), (4, .ref od), (5, .int (nI i))] → W p l e room_1 s m args below meth c H1 locs1 (cells + 2) (slots + 96) Q (F0 m 2834 ls1 [])) : W p l e room_1 s m args below meth c H locs cells slots Q (F0 m 2147 ls []) := by
  refine lv_aload_n hx hb dL_law_2147 rfl (lv_at hl 1 rfl) ?_
  obtain ⟨Φ, Ψ, hM1, hM2, hpure⟩ := harm
  obtain ⟨⟨fs0, e0⟩, fs9, e9⟩ := hhd _ _ hI
  refine zlV (ci := 9) (As := []) (rest := []) 0 hg.1.1.1.1.1 ⟨hx, hb, hml, hown, hts⟩ hM1 (cwV 0 hts gL_law_X5_yarnAdded rfl rfl rfl (by decide +kernel) ⟨Nat.le_of_ble_eq_true rfl, Nat.le_of_ble_eq_true rfl⟩) hG hK hP hD hS (fun _ h => h) rfl e0 rfl hl.1 rfl (Nat.le_of_ble_eq_true rfl) dL_law_2148 ⟨hrc, hrs⟩ (fun w1 o1 H locs h1 hP hD hS => ?_)
  obtain ⟨k, rfl, h1⟩ := h1
  have hP := va_P_swap hP
  have hD := va_D_swap hD
  refine lv_aload_n hx hb dL_law_2151 rfl (lv_at hl 2 rfl) ?_
  refine zlV (ci := 10) (As := []) (rest := [.int k]) 0 hg.1.1.1.1.1 ⟨hx, hb, hml, hown, hts⟩ hM2 (cwV 0 hts gL_law_X6_yarnAdded rfl rfl rfl (by decide +kernel) ⟨Nat.le_of_ble_eq_true rfl, Nat.le_of_ble_eq_true rfl⟩) hG hK hP hD hS (fun _ h => h) rfl e9 rfl hl.1 rfl (Nat.le_of_ble_eq_true rfl) dL_law_2152 ⟨hrc, hrs⟩ (fun m1 o2 H locs h2 hP hD hS => ?_)
  obtain ⟨bb, rfl, h2⟩ := h2
  obtain ⟨hkb, hI1⟩ := hpure w1 k m1 bb h1 h2
  have hP := va_P_swap hP
  have hD := va_D_swap hD
  refine lv_icmp_eq (tgt := 2834) hx hb dL_law_2155 (by decide) (fun c9 => ?_) (fun c9 => ?_)
  · skip
    exact kn w1 m1 H locs ls hI1 hP hD hS (lv_sub hl [0, 1, 2, 3, 4, 5] rfl)
  · exact absurd hkb c9

set_option maxHeartbeats 4000000 in
set_option maxRecDepth 100000 in
/-- yarnUsed -/
theorem law_44 {G : zG} (hg : zGW G) {l : Launch} {D : va_G} {cy : Nat → ClassId} {I : va_W → va_W → Prop} {x0 x9 ow od b L : Nat} {xs : Nat → Int32} {p : Program} {e : Env} {s : State} {m : MethodId} {args : Array Value} {below : List Frame} {meth : Method} {c : Code} {H : Heap} {locs : List Loc} {cells slots : Nat} {Q : State → Prop} (hx : p.tables.exec = Jvm.exec) (hb : c.code = cL_law) (hml : c.maxLocals = 9) (hown : s.vm.findClass RL = some m.cls) (hts : ∀ w ∈ wsL_law, w.before args s = true) (hG : G (fun q => s.heap.size ≤ q) s) (hK : va_K D vwCl (zT cy) s) (hX : va_X b L xs s s.heap) (hbl : b < s.heap.size) {w mw : va_W} {i : Nat} (hi : i + 2 < L) (hL : L ≤ 1536) (hI : I w mw) (hhd : ∀ w m, I w m → zHd x0 x9 w m) (hP : va_P D vwCl (w ++ mw) H) (hD : va_D (fun q => s.heap.size ≤ q) (w ++ mw)) (hS : va_S (fun q => s.heap.size ≤ q) s.heap H locs) (ls : Array Slot) (hl : lv_has ls 9 [(0, .ref b), (1, .ref x0), (2, .ref x9), (3, .ref ow), (4, .ref od), (5, .int (nI i))]) (hrc : cells + 2 ≤ 603072) (hrs : slots + 96 ≤ 7202922) (harm : zArmD G D cy l I yX5_yarnUsed wsX5_yarnUsed [.ref x0] yX6_yarnUsed wsX6_yarnUsed [.ref x9] w mw) (kn : ∀ (w' m' : va_W) (H1 : Heap) (locs1 : List Loc) (ls1 : Array Slot), I w' m' → va_P D vwCl (w' ++ m') H1 → va_D (fun q => s.heap.size ≤ q) (w' ++ m') → va_S (fun q => s.heap.size ≤ q) s.heap H1 locs1 → lv_has ls1 9 [(0, .ref b), (1, .ref x0), (2, .ref x9), (3, .ref ow), (4, .ref od), (5, .int (nI i))] → W p l e room_1 s m args below meth c H1 locs1 (cells + 2) (slots + 96) Q (F0 m 2834 ls1 [])) : W p l e room_1 s m args below meth c H locs cells slots Q (F0 m 2160 ls []) := by
  refine lv_aload_n hx hb dL_law_2160 rfl (lv_at hl 1 rfl) ?_
  obtain ⟨Φ, Ψ, hM1, hM2, hpure⟩ := harm
  obtain ⟨⟨fs0, e0⟩, fs9, e9⟩ := hhd _ _ hI
  refine zlV (ci := 9) (As := []) (rest := []) 0 hg.1.1.1.1.1 ⟨hx, hb, hml, hown, hts⟩ hM1 (cwV 0 hts gL_law_X5_yarnUsed rfl rfl rfl (by decide +kernel) ⟨Nat.le_of_ble_eq_true rfl, Nat.le_of_ble_eq_true rfl⟩) hG hK hP hD hS (fun _ h => h) rfl e0 rfl hl.1 rfl (Nat.le_of_ble_eq_true rfl) dL_law_2161 ⟨hrc, hrs⟩ (fun w1 o1 H locs h1 hP hD hS => ?_)
  obtain ⟨k, rfl, h1⟩ := h1
  have hP := va_P_swap hP
  have hD := va_D_swap hD
  refine lv_aload_n hx hb dL_law_2164 rfl (lv_at hl 2 rfl) ?_
  refine zlV (ci := 10) (As := []) (rest := [.int k]) 0 hg.1.1.1.1.1 ⟨hx, hb, hml, hown, hts⟩ hM2 (cwV 0 hts gL_law_X6_yarnUsed rfl rfl rfl (by decide +kernel) ⟨Nat.le_of_ble_eq_true rfl, Nat.le_of_ble_eq_true rfl⟩) hG hK hP hD hS (fun _ h => h) rfl e9 rfl hl.1 rfl (Nat.le_of_ble_eq_true rfl) dL_law_2165 ⟨hrc, hrs⟩ (fun m1 o2 H locs h2 hP hD hS => ?_)
  obtain ⟨bb, rfl, h2⟩ := h2
  obtain ⟨hkb, hI1⟩ := hpure w1 k m1 bb h1 h2
  have hP := va_P_swap hP
  have hD := va_D_swap hD
  refine lv_icmp_eq (tgt := 2834) hx hb dL_law_2168 (by decide) (fun c9 => ?_) (fun c9 => ?_)
  · skip
    exact kn w1 m1 H locs ls hI1 hP hD hS (lv_sub hl [0, 1, 2, 3, 4, 5] rfl)
  · exact absurd hkb c9

set_option maxHeartbeats 4000000 in
set_option maxRecDepth 100000 in
/-- droppedLoops -/
theorem law_45 {G : zG} (hg : zGW G) {l : Launch} {D : va_G} {cy : Nat → ClassId} {I : va_W → va_W → Prop} {x0 x9 ow od b L : Nat} {xs : Nat → Int32} {p : Program} {e : Env} {s : State} {m : MethodId} {args : Array Value} {below : List Frame} {meth : Method} {c : Code} {H : Heap} {locs : List Loc} {cells slots : Nat} {Q : State → Prop} (hx : p.tables.exec = Jvm.exec) (hb : c.code = cL_law) (hml : c.maxLocals = 9) (hown : s.vm.findClass RL = some m.cls) (hts : ∀ w ∈ wsL_law, w.before args s = true) (hG : G (fun q => s.heap.size ≤ q) s) (hK : va_K D vwCl (zT cy) s) (hX : va_X b L xs s s.heap) (hbl : b < s.heap.size) {w mw : va_W} {i : Nat} (hi : i + 2 < L) (hL : L ≤ 1536) (hI : I w mw) (hhd : ∀ w m, I w m → zHd x0 x9 w m) (hP : va_P D vwCl (w ++ mw) H) (hD : va_D (fun q => s.heap.size ≤ q) (w ++ mw)) (hS : va_S (fun q => s.heap.size ≤ q) s.heap H locs) (ls : Array Slot) (hl : lv_has ls 9 [(0, .ref b), (1, .ref x0), (2, .ref x9), (3, .ref ow), (4, .ref od), (5, .int (nI i))]) (hrc : cells + 2 ≤ 603072) (hrs : slots + 96 ≤ 7202922) (harm : zArmD G D cy l I yX5_droppedLoops wsX5_droppedLoops [.ref x0] yX6_droppedLoops wsX6_droppedLoops [.ref x9] w mw) (kn : ∀ (w' m' : va_W) (H1 : Heap) (locs1 : List Loc) (ls1 : Array Slot), I w' m' → va_P D vwCl (w' ++ m') H1 → va_D (fun q => s.heap.size ≤ q) (w' ++ m') → va_S (fun q => s.heap.size ≤ q) s.heap H1 locs1 → lv_has ls1 9 [(0, .ref b), (1, .ref x0), (2, .ref x9), (3, .ref ow), (4, .ref od), (5, .int (nI i))] → W p l e room_1 s m args below meth c H1 locs1 (cells + 2) (slots + 96) Q (F0 m 2834 ls1 [])) : W p l e room_1 s m args below meth c H locs cells slots Q (F0 m 2173 ls []) := by
  refine lv_aload_n hx hb dL_law_2173 rfl (lv_at hl 1 rfl) ?_
  obtain ⟨Φ, Ψ, hM1, hM2, hpure⟩ := harm
  obtain ⟨⟨fs0, e0⟩, fs9, e9⟩ := hhd _ _ hI
  refine zlV (ci := 9) (As := []) (rest := []) 0 hg.1.1.1.1.1 ⟨hx, hb, hml, hown, hts⟩ hM1 (cwV 0 hts gL_law_X5_droppedLoops rfl rfl rfl (by decide +kernel) ⟨Nat.le_of_ble_eq_true rfl, Nat.le_of_ble_eq_true rfl⟩) hG hK hP hD hS (fun _ h => h) rfl e0 rfl hl.1 rfl (Nat.le_of_ble_eq_true rfl) dL_law_2174 ⟨hrc, hrs⟩ (fun w1 o1 H locs h1 hP hD hS => ?_)
  obtain ⟨k, rfl, h1⟩ := h1
  have hP := va_P_swap hP
  have hD := va_D_swap hD
  refine lv_aload_n hx hb dL_law_2177 rfl (lv_at hl 2 rfl) ?_
  refine zlV (ci := 10) (As := []) (rest := [.int k]) 0 hg.1.1.1.1.1 ⟨hx, hb, hml, hown, hts⟩ hM2 (cwV 0 hts gL_law_X6_droppedLoops rfl rfl rfl (by decide +kernel) ⟨Nat.le_of_ble_eq_true rfl, Nat.le_of_ble_eq_true rfl⟩) hG hK hP hD hS (fun _ h => h) rfl e9 rfl hl.1 rfl (Nat.le_of_ble_eq_true rfl) dL_law_2178 ⟨hrc, hrs⟩ (fun m1 o2 H locs h2 hP hD hS => ?_)
  obtain ⟨bb, rfl, h2⟩ := h2
  obtain ⟨hkb, hI1⟩ := hpure w1 k m1 bb h1 h2
  have hP := va_P_swap hP
  have hD := va_D_swap hD
  refine lv_icmp_eq (tgt := 2834) hx hb dL_law_2181 (by decide) (fun c9 => ?_) (fun c9 => ?_)
  · skip
    exact kn w1 m1 H locs ls hI1 hP hD hS (lv_sub hl [0, 1, 2, 3, 4, 5] rfl)
  · exact absurd hkb c9

set_option maxHeartbeats 4000000 in
set_option maxRecDepth 100000 in
/-- meanWidth -/
theorem law_46 {G : zG} (hg : zGW G) {l : Launch} {D : va_G} {cy : Nat → ClassId} {I : va_W → va_W → Prop} {x0 x9 ow od b L : Nat} {xs : Nat → Int32} {p : Program} {e : Env} {s : State} {m : MethodId} {args : Array Value} {below : List Frame} {meth : Method} {c : Code} {H : Heap} {locs : List Loc} {cells slots : Nat} {Q : State → Prop} (hx : p.tables.exec = Jvm.exec) (hb : c.code = cL_law) (hml : c.maxLocals = 9) (hown : s.vm.findClass RL = some m.cls) (hts : ∀ w ∈ wsL_law, w.before args s = true) (hG : G (fun q => s.heap.size ≤ q) s) (hK : va_K D vwCl (zT cy) s) (hX : va_X b L xs s s.heap) (hbl : b < s.heap.size) {w mw : va_W} {i : Nat} (hi : i + 2 < L) (hL : L ≤ 1536) (hI : I w mw) (hhd : ∀ w m, I w m → zHd x0 x9 w m) (hP : va_P D vwCl (w ++ mw) H) (hD : va_D (fun q => s.heap.size ≤ q) (w ++ mw)) (hS : va_S (fun q => s.heap.size ≤ q) s.heap H locs) (ls : Array Slot) (hl : lv_has ls 9 [(0, .ref b), (1, .ref x0), (2, .ref x9), (3, .ref ow), (4, .ref od), (5, .int (nI i))]) (hrc : cells + 2 ≤ 603072) (hrs : slots + 96 ≤ 7202922) (harm : zArmDb G D cy l I x9 yL_meanWidth wsL_meanWidth [.ref x0, .ref od] yX6_meanWidth wsX6_meanWidth [.ref x9] (fun w' b => zOutD od cy w' (fun x => x = b ∧ Op.cmpValue (FP.dcmp b b) .l = 0)) w mw) (kn : ∀ (w' m' : va_W) (H1 : Heap) (locs1 : List Loc) (ls1 : Array Slot), I w' m' → va_P D vwCl (w' ++ m') H1 → va_D (fun q => s.heap.size ≤ q) (w' ++ m') → va_S (fun q => s.heap.size ≤ q) s.heap H1 locs1 → lv_has ls1 9 [(0, .ref b), (1, .ref x0), (2, .ref x9), (3, .ref ow), (4, .ref od), (5, .int (nI i))] → W p l e room_1 s m args below meth c H1 locs1 (cells + 2) (slots + 96) Q (F0 m 2834 ls1 [])) : W p l e room_1 s m args below meth c H locs cells slots Q (F0 m 2186 ls []) := by
  refine lv_aload_n hx hb dL_law_2186 rfl (lv_at hl 1 rfl) ?_
  refine lv_aload hx hb dL_law_2187 (lv_at hl 4 rfl) ?_
  obtain ⟨Φ, Ψ, hM1, hM2, hpure⟩ := harm
  refine zlS (As := [.ref x0, .ref od]) (rest := []) (hh := [(0, 7, 10, 111)]) hg.1.1.1.1.1 ⟨hx, hb, hml, hown, hts⟩ hM1 (vx_cwSW 2 hts gL_law_L_meanWidth rfl rfl rfl (by decide +kernel) ⟨Nat.le_of_ble_eq_true rfl, Nat.le_of_ble_eq_true rfl⟩) hG hK hP hD hS (fun _ h => h) rfl hl.1 rfl (Nat.le_of_ble_eq_true rfl) dL_law_2189 ⟨hrc, hrs⟩ (fun w1 o1 H locs h1 hP hD hS => ?_)
  obtain ⟨k, rfl, h1⟩ := h1
  have hP := va_P_swap hP
  have hD := va_D_swap hD
  refine lv_istore (lv' := [(6, .int k), (0, .ref b), (1, .ref x0), (2, .ref x9), (3, .ref ow), (4, .ref od), (5, .int (nI i))]) hx hb dL_law_2192 hl (by decide) rfl (fun ls hl => ?_)
  refine lv_aload_n hx hb dL_law_2194 rfl (lv_at hl 3 rfl) ?_
  obtain ⟨⟨fs0, e0⟩, fs9, e9⟩ := hhd _ _ hI
  refine zlV (ci := 10) (As := []) (rest := []) 0 hg.1.1.1.1.1 ⟨hx, hb, hml, hown, hts⟩ hM2 (cwV 0 hts gL_law_X6_meanWidth rfl rfl rfl (by decide +kernel) ⟨Nat.le_of_ble_eq_true rfl, Nat.le_of_ble_eq_true rfl⟩) hG hK hP hD hS (fun _ h => h) rfl e9 rfl hl.1 rfl (Nat.le_of_ble_eq_true rfl) dL_law_2195 ⟨hrc, hrs⟩ (fun m1 o2 H locs h2 hP hD hS => ?_)
  obtain ⟨bb, rfl, h2⟩ := h2
  obtain ⟨hth, hko, hI1⟩ := hpure w1 k m1 bb h1 h2
  refine lv_dstore (lv' := [(7, .double bb), (6, .int k), (0, .ref b), (1, .ref x0), (2, .ref x9), (3, .ref ow), (4, .ref od), (5, .int (nI i))]) hx hb dL_law_2198 hl (by decide) rfl (fun ls hl => ?_)
  refine lv_aload_n hx hb dL_law_2200 rfl (lv_at hl 4 rfl) ?_
  obtain ⟨⟨fs1, e1⟩, fs2, e2⟩ := hhd _ _ hI1
  refine zlV (ci := 10) (As := []) (rest := []) 0 hg.1.1.1.1.1 ⟨hx, hb, hml, hown, hts⟩ hth (cwV 0 hts gL_law_X6_thrown rfl rfl rfl (by decide +kernel) ⟨Nat.le_of_ble_eq_true rfl, Nat.le_of_ble_eq_true rfl⟩) hG hK hP hD hS (fun _ h => h) rfl e2 rfl hl.1 rfl (Nat.le_of_ble_eq_true rfl) dL_law_2201 ⟨hrc, hrs⟩ (fun m2 o3 H locs h3 hP hD hS => ?_)
  obtain ⟨em, rfl⟩ := h3
  rw [em] at hP hD
  have hP := va_P_swap hP
  have hD := va_D_swap hD
  refine lv_iload hx hb dL_law_2204 (lv_at hl 1 rfl) ?_
  refine lv_icmp_eq (tgt := 2211) hx hb dL_law_2206 (by decide) (fun c9 => ?_) (fun c9 => ?_)
  · skip
    refine lv_iload hx hb dL_law_2211 (lv_at hl 1 rfl) ?_
    refine lv_if_ne (tgt := 2248) hx hb dL_law_2213 (by decide) (fun c9 => ?_) (fun c9 => ?_)
    · skip
      refine lv_goto (tgt := 2834) hx hb dL_law_2248 (by decide) ?_
      exact kn w1 m1 H locs ls hI1 hP hD hS (lv_sub hl [2, 3, 4, 5, 6, 7] rfl)
    · skip
      obtain ⟨f, h47, hf, hcm⟩ := hko c9
      refine lv_aload hx hb dL_law_2216 (lv_at hl 6 rfl) ?_
      refine lv_iconst (v := 0) hx hb dL_law_2218 (by decide) ?_
      refine z_top (y := nI 0) rfl ?_
      refine va_dald hx hb hK hP 48 4 (z_inl h47) rfl (vp_in_nI (n := 0) (by decide) (by decide)) dL_law_2219 ?_
      rw [show f (nI 0).toNatClampNeg = _ from hf]
      refine lv_dload hx hb dL_law_2220 (lv_at hl 0 rfl) ?_
      refine lv_dcmp hx hb dL_law_2222 ?_
      refine z_top (y := 0) hcm ?_
      refine lv_if_eq (tgt := 2248) hx hb dL_law_2223 (by decide) (fun c9 => ?_) (fun c9 => ?_)
      · skip
        refine lv_goto (tgt := 2834) hx hb dL_law_2248 (by decide) ?_
        exact kn w1 m1 H locs ls hI1 hP hD hS (lv_sub hl [2, 3, 4, 5, 6, 7] rfl)
      · exact absurd rfl c9
  · exact absurd rfl c9

set_option maxHeartbeats 4000000 in
set_option maxRecDepth 100000 in
/-- droppedShare -/
theorem law_47 {G : zG} (hg : zGW G) {l : Launch} {D : va_G} {cy : Nat → ClassId} {I : va_W → va_W → Prop} {x0 x9 ow od b L : Nat} {xs : Nat → Int32} {p : Program} {e : Env} {s : State} {m : MethodId} {args : Array Value} {below : List Frame} {meth : Method} {c : Code} {H : Heap} {locs : List Loc} {cells slots : Nat} {Q : State → Prop} (hx : p.tables.exec = Jvm.exec) (hb : c.code = cL_law) (hml : c.maxLocals = 9) (hown : s.vm.findClass RL = some m.cls) (hts : ∀ w ∈ wsL_law, w.before args s = true) (hG : G (fun q => s.heap.size ≤ q) s) (hK : va_K D vwCl (zT cy) s) (hX : va_X b L xs s s.heap) (hbl : b < s.heap.size) {w mw : va_W} {i : Nat} (hi : i + 2 < L) (hL : L ≤ 1536) (hI : I w mw) (hhd : ∀ w m, I w m → zHd x0 x9 w m) (hP : va_P D vwCl (w ++ mw) H) (hD : va_D (fun q => s.heap.size ≤ q) (w ++ mw)) (hS : va_S (fun q => s.heap.size ≤ q) s.heap H locs) (ls : Array Slot) (hl : lv_has ls 9 [(0, .ref b), (1, .ref x0), (2, .ref x9), (3, .ref ow), (4, .ref od), (5, .int (nI i))]) (hrc : cells + 2 ≤ 603072) (hrs : slots + 96 ≤ 7202922) (harm : zArmFl G D cy l I x9 yL_droppedShare wsL_droppedShare [.ref x0, .ref od] yX6_droppedShare wsX6_droppedShare [.ref x9] (fun w' b => zOutD od cy w' (fun x => vf_n64 (FP.f2d b) ∧ x = FP.f2d b ∧ Op.cmpValue (FP.dcmp (FP.f2d b) (FP.f2d b)) .l = 0)) w mw) (kn : ∀ (w' m' : va_W) (H1 : Heap) (locs1 : List Loc) (ls1 : Array Slot), I w' m' → va_P D vwCl (w' ++ m') H1 → va_D (fun q => s.heap.size ≤ q) (w' ++ m') → va_S (fun q => s.heap.size ≤ q) s.heap H1 locs1 → lv_has ls1 9 [(0, .ref b), (1, .ref x0), (2, .ref x9), (3, .ref ow), (4, .ref od), (5, .int (nI i))] → W p l e room_1 s m args below meth c H1 locs1 (cells + 2) (slots + 96) Q (F0 m 2834 ls1 [])) : W p l e room_1 s m args below meth c H locs cells slots Q (F0 m 2251 ls []) := by
  refine lv_aload_n hx hb dL_law_2251 rfl (lv_at hl 1 rfl) ?_
  refine lv_aload hx hb dL_law_2252 (lv_at hl 4 rfl) ?_
  obtain ⟨Φ, Ψ, hM1, hM2, hpure⟩ := harm
  refine zlS (As := [.ref x0, .ref od]) (rest := []) (hh := [(0, 8, 11, 111)]) hg.1.1.1.1.1 ⟨hx, hb, hml, hown, hts⟩ hM1 (vx_cwSW 2 hts gL_law_L_droppedShare rfl rfl rfl (by decide +kernel) ⟨Nat.le_of_ble_eq_true rfl, Nat.le_of_ble_eq_true rfl⟩) hG hK hP hD hS (fun _ h => h) rfl hl.1 rfl (Nat.le_of_ble_eq_true rfl) dL_law_2254 ⟨hrc, hrs⟩ (fun w1 o1 H locs h1 hP hD hS => ?_)
  obtain ⟨k, rfl, h1⟩ := h1
  have hP := va_P_swap hP
  have hD := va_D_swap hD
  refine lv_istore (lv' := [(6, .int k), (0, .ref b), (1, .ref x0), (2, .ref x9), (3, .ref ow), (4, .ref od), (5, .int (nI i))]) hx hb dL_law_2257 hl (by decide) rfl (fun ls hl => ?_)
  refine lv_aload_n hx hb dL_law_2259 rfl (lv_at hl 3 rfl) ?_
  obtain ⟨⟨fs0, e0⟩, fs9, e9⟩ := hhd _ _ hI
  refine zlV (ci := 10) (As := []) (rest := []) 0 hg.1.1.1.1.1 ⟨hx, hb, hml, hown, hts⟩ hM2 (cwV 0 hts gL_law_X6_droppedShare rfl rfl rfl (by decide +kernel) ⟨Nat.le_of_ble_eq_true rfl, Nat.le_of_ble_eq_true rfl⟩) hG hK hP hD hS (fun _ h => h) rfl e9 rfl hl.1 rfl (Nat.le_of_ble_eq_true rfl) dL_law_2260 ⟨hrc, hrs⟩ (fun m1 o2 H locs h2 hP hD hS => ?_)
  obtain ⟨bb, rfl, h2⟩ := h2
  obtain ⟨hth, hko, hI1⟩ := hpure w1 k m1 bb h1 h2
  refine lv_fstore (lv' := [(7, .float bb), (6, .int k), (0, .ref b), (1, .ref x0), (2, .ref x9), (3, .ref ow), (4, .ref od), (5, .int (nI i))]) hx hb dL_law_2263 hl (by decide) rfl (fun ls hl => ?_)
  refine lv_aload_n hx hb dL_law_2265 rfl (lv_at hl 4 rfl) ?_
  obtain ⟨⟨fs1, e1⟩, fs2, e2⟩ := hhd _ _ hI1
  refine zlV (ci := 10) (As := []) (rest := []) 0 hg.1.1.1.1.1 ⟨hx, hb, hml, hown, hts⟩ hth (cwV 0 hts gL_law_X6_thrown rfl rfl rfl (by decide +kernel) ⟨Nat.le_of_ble_eq_true rfl, Nat.le_of_ble_eq_true rfl⟩) hG hK hP hD hS (fun _ h => h) rfl e2 rfl hl.1 rfl (Nat.le_of_ble_eq_true rfl) dL_law_2266 ⟨hrc, hrs⟩ (fun m2 o3 H locs h3 hP hD hS => ?_)
  obtain ⟨em, rfl⟩ := h3
  rw [em] at hP hD
  have hP := va_P_swap hP
  have hD := va_D_swap hD
  refine lv_iload hx hb dL_law_2269 (lv_at hl 1 rfl) ?_
  refine lv_icmp_eq (tgt := 2276) hx hb dL_law_2271 (by decide) (fun c9 => ?_) (fun c9 => ?_)
  · skip
    refine lv_iload hx hb dL_law_2276 (lv_at hl 1 rfl) ?_
    refine lv_if_ne (tgt := 2314) hx hb dL_law_2278 (by decide) (fun c9 => ?_) (fun c9 => ?_)
    · skip
      refine lv_goto (tgt := 2834) hx hb dL_law_2314 (by decide) ?_
      exact kn w1 m1 H locs ls hI1 hP hD hS (lv_sub hl [2, 3, 4, 5, 6, 7] rfl)
    · skip
      obtain ⟨f, h47, hnf, hf, hcm⟩ := hko c9
      refine lv_aload hx hb dL_law_2281 (lv_at hl 6 rfl) ?_
      refine lv_iconst (v := 0) hx hb dL_law_2283 (by decide) ?_
      refine z_top (y := nI 0) rfl ?_
      refine va_dald hx hb hK hP 48 4 (z_inl h47) rfl (vp_in_nI (n := 0) (by decide) (by decide)) dL_law_2284 ?_
      rw [show f (nI 0).toNatClampNeg = _ from hf]
      refine lv_fload hx hb dL_law_2285 (lv_at hl 0 rfl) ?_
      refine lv_f2d hx hb dL_law_2287 hnf ?_
      refine lv_dcmp hx hb dL_law_2288 ?_
      refine z_top (y := 0) hcm ?_
      refine lv_if_eq (tgt := 2314) hx hb dL_law_2289 (by decide) (fun c9 => ?_) (fun c9 => ?_)
      · skip
        refine lv_goto (tgt := 2834) hx hb dL_law_2314 (by decide) ?_
        exact kn w1 m1 H locs ls hI1 hP hD hS (lv_sub hl [2, 3, 4, 5, 6, 7] rfl)
      · exact absurd rfl c9
  · exact absurd rfl c9

set_option maxHeartbeats 4000000 in
set_option maxRecDepth 100000 in
/-- isConsistent -/
theorem law_48 {G : zG} (hg : zGW G) {l : Launch} {D : va_G} {cy : Nat → ClassId} {I : va_W → va_W → Prop} {x0 x9 ow od b L : Nat} {xs : Nat → Int32} {p : Program} {e : Env} {s : State} {m : MethodId} {args : Array Value} {below : List Frame} {meth : Method} {c : Code} {H : Heap} {locs : List Loc} {cells slots : Nat} {Q : State → Prop} (hx : p.tables.exec = Jvm.exec) (hb : c.code = cL_law) (hml : c.maxLocals = 9) (hown : s.vm.findClass RL = some m.cls) (hts : ∀ w ∈ wsL_law, w.before args s = true) (hG : G (fun q => s.heap.size ≤ q) s) (hK : va_K D vwCl (zT cy) s) (hX : va_X b L xs s s.heap) (hbl : b < s.heap.size) {w mw : va_W} {i : Nat} (hi : i + 2 < L) (hL : L ≤ 1536) (hI : I w mw) (hhd : ∀ w m, I w m → zHd x0 x9 w m) (hP : va_P D vwCl (w ++ mw) H) (hD : va_D (fun q => s.heap.size ≤ q) (w ++ mw)) (hS : va_S (fun q => s.heap.size ≤ q) s.heap H locs) (ls : Array Slot) (hl : lv_has ls 9 [(0, .ref b), (1, .ref x0), (2, .ref x9), (3, .ref ow), (4, .ref od), (5, .int (nI i))]) (hrc : cells + 2 ≤ 603072) (hrs : slots + 96 ≤ 7202922) (harm : zArmD G D cy l I yX5_isConsistent wsX5_isConsistent [.ref x0] yX6_isConsistent wsX6_isConsistent [.ref x9] w mw) (kn : ∀ (w' m' : va_W) (H1 : Heap) (locs1 : List Loc) (ls1 : Array Slot), I w' m' → va_P D vwCl (w' ++ m') H1 → va_D (fun q => s.heap.size ≤ q) (w' ++ m') → va_S (fun q => s.heap.size ≤ q) s.heap H1 locs1 → lv_has ls1 9 [(0, .ref b), (1, .ref x0), (2, .ref x9), (3, .ref ow), (4, .ref od), (5, .int (nI i))] → W p l e room_1 s m args below meth c H1 locs1 (cells + 2) (slots + 96) Q (F0 m 2834 ls1 [])) : W p l e room_1 s m args below meth c H locs cells slots Q (F0 m 2317 ls []) := by
  refine lv_aload_n hx hb dL_law_2317 rfl (lv_at hl 1 rfl) ?_
  obtain ⟨Φ, Ψ, hM1, hM2, hpure⟩ := harm
  obtain ⟨⟨fs0, e0⟩, fs9, e9⟩ := hhd _ _ hI
  refine zlV (ci := 9) (As := []) (rest := []) 0 hg.1.1.1.1.1 ⟨hx, hb, hml, hown, hts⟩ hM1 (cwV 0 hts gL_law_X5_isConsistent rfl rfl rfl (by decide +kernel) ⟨Nat.le_of_ble_eq_true rfl, Nat.le_of_ble_eq_true rfl⟩) hG hK hP hD hS (fun _ h => h) rfl e0 rfl hl.1 rfl (Nat.le_of_ble_eq_true rfl) dL_law_2318 ⟨hrc, hrs⟩ (fun w1 o1 H locs h1 hP hD hS => ?_)
  obtain ⟨k, rfl, h1⟩ := h1
  have hP := va_P_swap hP
  have hD := va_D_swap hD
  refine lv_aload_n hx hb dL_law_2321 rfl (lv_at hl 2 rfl) ?_
  refine zlV (ci := 10) (As := []) (rest := [.int k]) 0 hg.1.1.1.1.1 ⟨hx, hb, hml, hown, hts⟩ hM2 (cwV 0 hts gL_law_X6_isConsistent rfl rfl rfl (by decide +kernel) ⟨Nat.le_of_ble_eq_true rfl, Nat.le_of_ble_eq_true rfl⟩) hG hK hP hD hS (fun _ h => h) rfl e9 rfl hl.1 rfl (Nat.le_of_ble_eq_true rfl) dL_law_2322 ⟨hrc, hrs⟩ (fun m1 o2 H locs h2 hP hD hS => ?_)
  obtain ⟨bb, rfl, h2⟩ := h2
  obtain ⟨hkb, hI1⟩ := hpure w1 k m1 bb h1 h2
  have hP := va_P_swap hP
  have hD := va_D_swap hD
  refine lv_icmp_eq (tgt := 2834) hx hb dL_law_2325 (by decide) (fun c9 => ?_) (fun c9 => ?_)
  · skip
    exact kn w1 m1 H locs ls hI1 hP hD hS (lv_sub hl [0, 1, 2, 3, 4, 5] rfl)
  · exact absurd hkb c9

set_option maxHeartbeats 4000000 in
set_option maxRecDepth 100000 in
/-- writeBed -/
theorem law_49 {G : zG} (hg : zGW G) {l : Launch} {D : va_G} {cy : Nat → ClassId} {I : va_W → va_W → Prop} {x0 x9 ow od b L : Nat} {xs : Nat → Int32} {p : Program} {e : Env} {s : State} {m : MethodId} {args : Array Value} {below : List Frame} {meth : Method} {c : Code} {H : Heap} {locs : List Loc} {cells slots : Nat} {Q : State → Prop} (hx : p.tables.exec = Jvm.exec) (hb : c.code = cL_law) (hml : c.maxLocals = 9) (hown : s.vm.findClass RL = some m.cls) (hts : ∀ w ∈ wsL_law, w.before args s = true) (hG : G (fun q => s.heap.size ≤ q) s) (hK : va_K D vwCl (zT cy) s) (hX : va_X b L xs s s.heap) (hbl : b < s.heap.size) {w mw : va_W} {i : Nat} (hi : i + 2 < L) (hL : L ≤ 1536) (hI : I w mw) (hhd : ∀ w m, I w m → zHd x0 x9 w m) (hP : va_P D vwCl (w ++ mw) H) (hD : va_D (fun q => s.heap.size ≤ q) (w ++ mw)) (hS : va_S (fun q => s.heap.size ≤ q) s.heap H locs) (ls : Array Slot) (hl : lv_has ls 9 [(0, .ref b), (1, .ref x0), (2, .ref x9), (3, .ref ow), (4, .ref od), (5, .int (nI i))]) (hrc : cells + 2 ≤ 603072) (hrs : slots + 96 ≤ 7202922) (harm : zArmD G D cy l I yX5_writeBed wsX5_writeBed [.ref x0] yX6_writeBed wsX6_writeBed [.ref x9] w mw) (kn : ∀ (w' m' : va_W) (H1 : Heap) (locs1 : List Loc) (ls1 : Array Slot), I w' m' → va_P D vwCl (w' ++ m') H1 → va_D (fun q => s.heap.size ≤ q) (w' ++ m') → va_S (fun q => s.heap.size ≤ q) s.heap H1 locs1 → lv_has ls1 9 [(0, .ref b), (1, .ref x0), (2, .ref x9), (3, .ref ow), (4, .ref od), (5, .int (nI i))] → W p l e room_1 s m args below meth c H1 locs1 (cells + 2) (slots + 96) Q (F0 m 2834 ls1 [])) : W p l e room_1 s m args below meth c H locs cells slots Q (F0 m 2330 ls []) := by
  refine lv_aload_n hx hb dL_law_2330 rfl (lv_at hl 1 rfl) ?_
  obtain ⟨Φ, Ψ, hM1, hM2, hpure⟩ := harm
  obtain ⟨⟨fs0, e0⟩, fs9, e9⟩ := hhd _ _ hI
  refine zlV (ci := 9) (As := []) (rest := []) 0 hg.1.1.1.1.1 ⟨hx, hb, hml, hown, hts⟩ hM1 (cwV 0 hts gL_law_X5_writeBed rfl rfl rfl (by decide +kernel) ⟨Nat.le_of_ble_eq_true rfl, Nat.le_of_ble_eq_true rfl⟩) hG hK hP hD hS (fun _ h => h) rfl e0 rfl hl.1 rfl (Nat.le_of_ble_eq_true rfl) dL_law_2331 ⟨hrc, hrs⟩ (fun w1 o1 H locs h1 hP hD hS => ?_)
  obtain ⟨k, rfl, h1⟩ := h1
  have hP := va_P_swap hP
  have hD := va_D_swap hD
  refine lv_aload_n hx hb dL_law_2334 rfl (lv_at hl 2 rfl) ?_
  refine zlV (ci := 10) (As := []) (rest := [.int k]) 0 hg.1.1.1.1.1 ⟨hx, hb, hml, hown, hts⟩ hM2 (cwV 0 hts gL_law_X6_writeBed rfl rfl rfl (by decide +kernel) ⟨Nat.le_of_ble_eq_true rfl, Nat.le_of_ble_eq_true rfl⟩) hG hK hP hD hS (fun _ h => h) rfl e9 rfl hl.1 rfl (Nat.le_of_ble_eq_true rfl) dL_law_2335 ⟨hrc, hrs⟩ (fun m1 o2 H locs h2 hP hD hS => ?_)
  obtain ⟨bb, rfl, h2⟩ := h2
  obtain ⟨hkb, hI1⟩ := hpure w1 k m1 bb h1 h2
  have hP := va_P_swap hP
  have hD := va_D_swap hD
  refine lv_icmp_eq (tgt := 2834) hx hb dL_law_2338 (by decide) (fun c9 => ?_) (fun c9 => ?_)
  · skip
    exact kn w1 m1 H locs ls hI1 hP hD hS (lv_sub hl [0, 1, 2, 3, 4, 5] rfl)
  · exact absurd hkb c9

set_option maxHeartbeats 4000000 in
set_option maxRecDepth 100000 in
/-- writeCourse -/
theorem law_50 {G : zG} (hg : zGW G) {l : Launch} {D : va_G} {cy : Nat → ClassId} {I : va_W → va_W → Prop} {x0 x9 ow od b L : Nat} {xs : Nat → Int32} {p : Program} {e : Env} {s : State} {m : MethodId} {args : Array Value} {below : List Frame} {meth : Method} {c : Code} {H : Heap} {locs : List Loc} {cells slots : Nat} {Q : State → Prop} (hx : p.tables.exec = Jvm.exec) (hb : c.code = cL_law) (hml : c.maxLocals = 9) (hown : s.vm.findClass RL = some m.cls) (hts : ∀ w ∈ wsL_law, w.before args s = true) (hG : G (fun q => s.heap.size ≤ q) s) (hK : va_K D vwCl (zT cy) s) (hX : va_X b L xs s s.heap) (hbl : b < s.heap.size) {w mw : va_W} {i : Nat} (hi : i + 2 < L) (hL : L ≤ 1536) (hI : I w mw) (hhd : ∀ w m, I w m → zHd x0 x9 w m) (hP : va_P D vwCl (w ++ mw) H) (hD : va_D (fun q => s.heap.size ≤ q) (w ++ mw)) (hS : va_S (fun q => s.heap.size ≤ q) s.heap H locs) (ls : Array Slot) (hl : lv_has ls 9 [(0, .ref b), (1, .ref x0), (2, .ref x9), (3, .ref ow), (4, .ref od), (5, .int (nI i))]) (hrc : cells + 2 ≤ 603072) (hrs : slots + 96 ≤ 7202922) (harm : zArmS G D cy l I x9 yL_writeCourse wsL_writeCourse [.ref x0, .int (xs (i + 1)), .ref ow] yX6_writeCourse wsX6_writeCourse [.ref x9, .int (xs (i + 1))] (fun w' b => zOut ow cy w' b.toInt64) w mw) (kn : ∀ (w' m' : va_W) (H1 : Heap) (locs1 : List Loc) (ls1 : Array Slot), I w' m' → va_P D vwCl (w' ++ m') H1 → va_D (fun q => s.heap.size ≤ q) (w' ++ m') → va_S (fun q => s.heap.size ≤ q) s.heap H1 locs1 → lv_has ls1 9 [(0, .ref b), (1, .ref x0), (2, .ref x9), (3, .ref ow), (4, .ref od), (5, .int (nI i))] → W p l e room_1 s m args below meth c H1 locs1 (cells + 2) (slots + 96) Q (F0 m 2834 ls1 [])) : W p l e room_1 s m args below meth c H locs cells slots Q (F0 m 2343 ls []) := by
  refine lv_aload_n hx hb dL_law_2343 rfl (lv_at hl 1 rfl) ?_
  refine lv_aload_n hx hb dL_law_2344 rfl (lv_at hl 0 rfl) ?_
  refine lv_iload hx hb dL_law_2345 (lv_at hl 5 rfl) ?_
  refine lv_iconst (v := 1) hx hb dL_law_2347 (by decide) ?_
  refine lv_iadd hx hb dL_law_2348 ?_
  refine z_top (y := nI (i + 1)) (nI_add i 1) ?_
  refine va_sld hx hb hX hbl (Nat.not_le.mpr hbl) hS (vp_in_nI (n := i + 1) (by omega) (by omega)) dL_law_2349 ?_
  refine z_top (y := xs (i + 1)) (by rw [nI_clamp (by omega)]) ?_
  refine lv_aload_n hx hb dL_law_2350 rfl (lv_at hl 3 rfl) ?_
  obtain ⟨Φ, Ψ, hM1, hM2, hpure⟩ := harm
  refine zlS (As := [.ref x0, .int (xs (i + 1)), .ref ow]) (rest := []) (hh := [(0, 9, 12, 13)]) hg.1.1.1.1.1 ⟨hx, hb, hml, hown, hts⟩ hM1 (vx_cwSW 3 hts gL_law_L_writeCourse rfl rfl rfl (by decide +kernel) ⟨Nat.le_of_ble_eq_true rfl, Nat.le_of_ble_eq_true rfl⟩) hG hK hP hD hS (fun _ h => h) rfl hl.1 rfl (Nat.le_of_ble_eq_true rfl) dL_law_2351 ⟨hrc, hrs⟩ (fun w1 o1 H locs h1 hP hD hS => ?_)
  obtain ⟨k, rfl, h1⟩ := h1
  have hP := va_P_swap hP
  have hD := va_D_swap hD
  refine lv_istore (lv' := [(6, .int k), (0, .ref b), (1, .ref x0), (2, .ref x9), (3, .ref ow), (4, .ref od), (5, .int (nI i))]) hx hb dL_law_2354 hl (by decide) rfl (fun ls hl => ?_)
  refine lv_aload_n hx hb dL_law_2356 rfl (lv_at hl 3 rfl) ?_
  refine lv_aload_n hx hb dL_law_2357 rfl (lv_at hl 1 rfl) ?_
  refine lv_iload hx hb dL_law_2358 (lv_at hl 6 rfl) ?_
  refine lv_iconst (v := 1) hx hb dL_law_2360 (by decide) ?_
  refine lv_iadd hx hb dL_law_2361 ?_
  refine z_top (y := nI (i + 1)) (nI_add i 1) ?_
  refine va_sld hx hb hX hbl (Nat.not_le.mpr hbl) hS (vp_in_nI (n := i + 1) (by omega) (by omega)) dL_law_2362 ?_
  refine z_top (y := xs (i + 1)) (by rw [nI_clamp (by omega)]) ?_
  obtain ⟨⟨fs0, e0⟩, fs9, e9⟩ := hhd _ _ hI
  refine zlV (ci := 10) (As := [.int (xs (i + 1))]) (rest := []) 0 hg.1.1.1.1.1 ⟨hx, hb, hml, hown, hts⟩ hM2 (cwV 1 hts gL_law_X6_writeCourse rfl rfl rfl (by decide +kernel) ⟨Nat.le_of_ble_eq_true rfl, Nat.le_of_ble_eq_true rfl⟩) hG hK hP hD hS (fun _ h => h) rfl e9 rfl hl.1 rfl (Nat.le_of_ble_eq_true rfl) dL_law_2363 ⟨hrc, hrs⟩ (fun m1 o2 H locs h2 hP hD hS => ?_)
  obtain ⟨bb, rfl, h2⟩ := h2
  obtain ⟨hth, hko, hI1⟩ := hpure w1 k m1 bb h1 h2
  refine lv_istore (lv' := [(7, .int bb), (6, .int k), (0, .ref b), (1, .ref x0), (2, .ref x9), (3, .ref ow), (4, .ref od), (5, .int (nI i))]) hx hb dL_law_2366 hl (by decide) rfl (fun ls hl => ?_)
  refine lv_aload_n hx hb dL_law_2368 rfl (lv_at hl 4 rfl) ?_
  obtain ⟨⟨fs1, e1⟩, fs2, e2⟩ := hhd _ _ hI1
  refine zlV (ci := 10) (As := []) (rest := []) 0 hg.1.1.1.1.1 ⟨hx, hb, hml, hown, hts⟩ hth (cwV 0 hts gL_law_X6_thrown rfl rfl rfl (by decide +kernel) ⟨Nat.le_of_ble_eq_true rfl, Nat.le_of_ble_eq_true rfl⟩) hG hK hP hD hS (fun _ h => h) rfl e2 rfl hl.1 rfl (Nat.le_of_ble_eq_true rfl) dL_law_2369 ⟨hrc, hrs⟩ (fun m2 o3 H locs h3 hP hD hS => ?_)
  obtain ⟨em, rfl⟩ := h3
  rw [em] at hP hD
  have hP := va_P_swap hP
  have hD := va_D_swap hD
  refine lv_iload hx hb dL_law_2372 (lv_at hl 1 rfl) ?_
  refine lv_icmp_eq (tgt := 2379) hx hb dL_law_2374 (by decide) (fun c9 => ?_) (fun c9 => ?_)
  · skip
    refine lv_iload hx hb dL_law_2379 (lv_at hl 1 rfl) ?_
    refine lv_if_ne (tgt := 2396) hx hb dL_law_2381 (by decide) (fun c9 => ?_) (fun c9 => ?_)
    · skip
      refine lv_goto (tgt := 2834) hx hb dL_law_2396 (by decide) ?_
      exact kn w1 m1 H locs ls hI1 hP hD hS (lv_sub hl [2, 3, 4, 5, 6, 7] rfl)
    · skip
      obtain ⟨f, h47, hf⟩ := hko c9
      refine lv_aload_n hx hb dL_law_2384 rfl (lv_at hl 5 rfl) ?_
      refine lv_iconst (v := 0) hx hb dL_law_2385 (by decide) ?_
      refine z_top (y := nI 0) rfl ?_
      refine va_lald hx hb hK hP 47 3 (z_inl h47) rfl (vp_in_nI (n := 0) (by decide) (by decide)) dL_law_2386 ?_
      rw [show f (nI 0).toNatClampNeg = _ from hf]
      refine lv_iload hx hb dL_law_2387 (lv_at hl 0 rfl) ?_
      refine lv_i2l hx hb dL_law_2389 rfl ?_
      refine W.lcmp hx hb dL_law_2390 ?_
      refine z_top (y := 0) (lg_cmp_rf rfl) ?_
      refine lv_if_eq (tgt := 2396) hx hb dL_law_2391 (by decide) (fun c9 => ?_) (fun c9 => ?_)
      · skip
        refine lv_goto (tgt := 2834) hx hb dL_law_2396 (by decide) ?_
        exact kn w1 m1 H locs ls hI1 hP hD hS (lv_sub hl [2, 3, 4, 5, 6, 7] rfl)
      · exact absurd rfl c9
  · exact absurd rfl c9

set_option maxHeartbeats 4000000 in
set_option maxRecDepth 100000 in
/-- outputAt -/
theorem law_51 {G : zG} (hg : zGW G) {l : Launch} {D : va_G} {cy : Nat → ClassId} {I : va_W → va_W → Prop} {x0 x9 ow od b L : Nat} {xs : Nat → Int32} {p : Program} {e : Env} {s : State} {m : MethodId} {args : Array Value} {below : List Frame} {meth : Method} {c : Code} {H : Heap} {locs : List Loc} {cells slots : Nat} {Q : State → Prop} (hx : p.tables.exec = Jvm.exec) (hb : c.code = cL_law) (hml : c.maxLocals = 9) (hown : s.vm.findClass RL = some m.cls) (hts : ∀ w ∈ wsL_law, w.before args s = true) (hG : G (fun q => s.heap.size ≤ q) s) (hK : va_K D vwCl (zT cy) s) (hX : va_X b L xs s s.heap) (hbl : b < s.heap.size) {w mw : va_W} {i : Nat} (hi : i + 2 < L) (hL : L ≤ 1536) (hI : I w mw) (hhd : ∀ w m, I w m → zHd x0 x9 w m) (hP : va_P D vwCl (w ++ mw) H) (hD : va_D (fun q => s.heap.size ≤ q) (w ++ mw)) (hS : va_S (fun q => s.heap.size ≤ q) s.heap H locs) (ls : Array Slot) (hl : lv_has ls 9 [(0, .ref b), (1, .ref x0), (2, .ref x9), (3, .ref ow), (4, .ref od), (5, .int (nI i))]) (hrc : cells + 2 ≤ 603072) (hrs : slots + 96 ≤ 7202922) (harm : zArmS G D cy l I x9 yL_outputAt wsL_outputAt [.ref x0, .int (xs (i + 1)), .ref ow] yX6_outputAt wsX6_outputAt [.ref x9, .int (xs (i + 1))] (fun w' b => zOut ow cy w' b.toInt64) w mw) (kn : ∀ (w' m' : va_W) (H1 : Heap) (locs1 : List Loc) (ls1 : Array Slot), I w' m' → va_P D vwCl (w' ++ m') H1 → va_D (fun q => s.heap.size ≤ q) (w' ++ m') → va_S (fun q => s.heap.size ≤ q) s.heap H1 locs1 → lv_has ls1 9 [(0, .ref b), (1, .ref x0), (2, .ref x9), (3, .ref ow), (4, .ref od), (5, .int (nI i))] → W p l e room_1 s m args below meth c H1 locs1 (cells + 2) (slots + 96) Q (F0 m 2834 ls1 [])) : W p l e room_1 s m args below meth c H locs cells slots Q (F0 m 2399 ls []) := by
  refine lv_aload_n hx hb dL_law_2399 rfl (lv_at hl 1 rfl) ?_
  refine lv_aload_n hx hb dL_law_2400 rfl (lv_at hl 0 rfl) ?_
  refine lv_iload hx hb dL_law_2401 (lv_at hl 5 rfl) ?_
  refine lv_iconst (v := 1) hx hb dL_law_2403 (by decide) ?_
  refine lv_iadd hx hb dL_law_2404 ?_
  refine z_top (y := nI (i + 1)) (nI_add i 1) ?_
  refine va_sld hx hb hX hbl (Nat.not_le.mpr hbl) hS (vp_in_nI (n := i + 1) (by omega) (by omega)) dL_law_2405 ?_
  refine z_top (y := xs (i + 1)) (by rw [nI_clamp (by omega)]) ?_
  refine lv_aload_n hx hb dL_law_2406 rfl (lv_at hl 3 rfl) ?_
  obtain ⟨Φ, Ψ, hM1, hM2, hpure⟩ := harm
  refine zlS (As := [.ref x0, .int (xs (i + 1)), .ref ow]) (rest := []) (hh := [(0, 9, 12, 13)]) hg.1.1.1.1.1 ⟨hx, hb, hml, hown, hts⟩ hM1 (vx_cwSW 3 hts gL_law_L_outputAt rfl rfl rfl (by decide +kernel) ⟨Nat.le_of_ble_eq_true rfl, Nat.le_of_ble_eq_true rfl⟩) hG hK hP hD hS (fun _ h => h) rfl hl.1 rfl (Nat.le_of_ble_eq_true rfl) dL_law_2407 ⟨hrc, hrs⟩ (fun w1 o1 H locs h1 hP hD hS => ?_)
  obtain ⟨k, rfl, h1⟩ := h1
  have hP := va_P_swap hP
  have hD := va_D_swap hD
  refine lv_istore (lv' := [(6, .int k), (0, .ref b), (1, .ref x0), (2, .ref x9), (3, .ref ow), (4, .ref od), (5, .int (nI i))]) hx hb dL_law_2410 hl (by decide) rfl (fun ls hl => ?_)
  refine lv_aload_n hx hb dL_law_2412 rfl (lv_at hl 3 rfl) ?_
  refine lv_aload_n hx hb dL_law_2413 rfl (lv_at hl 1 rfl) ?_
  refine lv_iload hx hb dL_law_2414 (lv_at hl 6 rfl) ?_
  refine lv_iconst (v := 1) hx hb dL_law_2416 (by decide) ?_
  refine lv_iadd hx hb dL_law_2417 ?_
  refine z_top (y := nI (i + 1)) (nI_add i 1) ?_
  refine va_sld hx hb hX hbl (Nat.not_le.mpr hbl) hS (vp_in_nI (n := i + 1) (by omega) (by omega)) dL_law_2418 ?_
  refine z_top (y := xs (i + 1)) (by rw [nI_clamp (by omega)]) ?_
  obtain ⟨⟨fs0, e0⟩, fs9, e9⟩ := hhd _ _ hI
  refine zlV (ci := 10) (As := [.int (xs (i + 1))]) (rest := []) 0 hg.1.1.1.1.1 ⟨hx, hb, hml, hown, hts⟩ hM2 (cwV 1 hts gL_law_X6_outputAt rfl rfl rfl (by decide +kernel) ⟨Nat.le_of_ble_eq_true rfl, Nat.le_of_ble_eq_true rfl⟩) hG hK hP hD hS (fun _ h => h) rfl e9 rfl hl.1 rfl (Nat.le_of_ble_eq_true rfl) dL_law_2419 ⟨hrc, hrs⟩ (fun m1 o2 H locs h2 hP hD hS => ?_)
  obtain ⟨bb, rfl, h2⟩ := h2
  obtain ⟨hth, hko, hI1⟩ := hpure w1 k m1 bb h1 h2
  refine lv_istore (lv' := [(7, .int bb), (6, .int k), (0, .ref b), (1, .ref x0), (2, .ref x9), (3, .ref ow), (4, .ref od), (5, .int (nI i))]) hx hb dL_law_2422 hl (by decide) rfl (fun ls hl => ?_)
  refine lv_aload_n hx hb dL_law_2424 rfl (lv_at hl 4 rfl) ?_
  obtain ⟨⟨fs1, e1⟩, fs2, e2⟩ := hhd _ _ hI1
  refine zlV (ci := 10) (As := []) (rest := []) 0 hg.1.1.1.1.1 ⟨hx, hb, hml, hown, hts⟩ hth (cwV 0 hts gL_law_X6_thrown rfl rfl rfl (by decide +kernel) ⟨Nat.le_of_ble_eq_true rfl, Nat.le_of_ble_eq_true rfl⟩) hG hK hP hD hS (fun _ h => h) rfl e2 rfl hl.1 rfl (Nat.le_of_ble_eq_true rfl) dL_law_2425 ⟨hrc, hrs⟩ (fun m2 o3 H locs h3 hP hD hS => ?_)
  obtain ⟨em, rfl⟩ := h3
  rw [em] at hP hD
  have hP := va_P_swap hP
  have hD := va_D_swap hD
  refine lv_iload hx hb dL_law_2428 (lv_at hl 1 rfl) ?_
  refine lv_icmp_eq (tgt := 2435) hx hb dL_law_2430 (by decide) (fun c9 => ?_) (fun c9 => ?_)
  · skip
    refine lv_iload hx hb dL_law_2435 (lv_at hl 1 rfl) ?_
    refine lv_if_ne (tgt := 2452) hx hb dL_law_2437 (by decide) (fun c9 => ?_) (fun c9 => ?_)
    · skip
      refine lv_goto (tgt := 2834) hx hb dL_law_2452 (by decide) ?_
      exact kn w1 m1 H locs ls hI1 hP hD hS (lv_sub hl [2, 3, 4, 5, 6, 7] rfl)
    · skip
      obtain ⟨f, h47, hf⟩ := hko c9
      refine lv_aload_n hx hb dL_law_2440 rfl (lv_at hl 5 rfl) ?_
      refine lv_iconst (v := 0) hx hb dL_law_2441 (by decide) ?_
      refine z_top (y := nI 0) rfl ?_
      refine va_lald hx hb hK hP 47 3 (z_inl h47) rfl (vp_in_nI (n := 0) (by decide) (by decide)) dL_law_2442 ?_
      rw [show f (nI 0).toNatClampNeg = _ from hf]
      refine lv_iload hx hb dL_law_2443 (lv_at hl 0 rfl) ?_
      refine lv_i2l hx hb dL_law_2445 rfl ?_
      refine W.lcmp hx hb dL_law_2446 ?_
      refine z_top (y := 0) (lg_cmp_rf rfl) ?_
      refine lv_if_eq (tgt := 2452) hx hb dL_law_2447 (by decide) (fun c9 => ?_) (fun c9 => ?_)
      · skip
        refine lv_goto (tgt := 2834) hx hb dL_law_2452 (by decide) ?_
        exact kn w1 m1 H locs ls hI1 hP hD hS (lv_sub hl [2, 3, 4, 5, 6, 7] rfl)
      · exact absurd rfl c9
  · exact absurd rfl c9

set_option maxHeartbeats 4000000 in
set_option maxRecDepth 100000 in
/-- appendInput -/
theorem law_52 {G : zG} (hg : zGW G) {l : Launch} {D : va_G} {cy : Nat → ClassId} {I : va_W → va_W → Prop} {x0 x9 ow od b L : Nat} {xs : Nat → Int32} {p : Program} {e : Env} {s : State} {m : MethodId} {args : Array Value} {below : List Frame} {meth : Method} {c : Code} {H : Heap} {locs : List Loc} {cells slots : Nat} {Q : State → Prop} (hx : p.tables.exec = Jvm.exec) (hb : c.code = cL_law) (hml : c.maxLocals = 9) (hown : s.vm.findClass RL = some m.cls) (hts : ∀ w ∈ wsL_law, w.before args s = true) (hG : G (fun q => s.heap.size ≤ q) s) (hK : va_K D vwCl (zT cy) s) (hX : va_X b L xs s s.heap) (hbl : b < s.heap.size) {w mw : va_W} {i : Nat} (hi : i + 2 < L) (hL : L ≤ 1536) (hI : I w mw) (hhd : ∀ w m, I w m → zHd x0 x9 w m) (hP : va_P D vwCl (w ++ mw) H) (hD : va_D (fun q => s.heap.size ≤ q) (w ++ mw)) (hS : va_S (fun q => s.heap.size ≤ q) s.heap H locs) (ls : Array Slot) (hl : lv_has ls 9 [(0, .ref b), (1, .ref x0), (2, .ref x9), (3, .ref ow), (4, .ref od), (5, .int (nI i))]) (hrc : cells + 2 ≤ 603072) (hrs : slots + 96 ≤ 7202922) (harm : zArmS G D cy l I x9 yL_appendInput wsL_appendInput [.ref x0, .int ((xs (i + 1)).toUInt32 % 65536).toInt32, .ref ow] yX6_appendInput wsX6_appendInput [.ref x9, .int ((xs (i + 1)).toUInt32 % 65536).toInt32] (fun w' b => zOut ow cy w' b.toInt64) w mw) (kn : ∀ (w' m' : va_W) (H1 : Heap) (locs1 : List Loc) (ls1 : Array Slot), I w' m' → va_P D vwCl (w' ++ m') H1 → va_D (fun q => s.heap.size ≤ q) (w' ++ m') → va_S (fun q => s.heap.size ≤ q) s.heap H1 locs1 → lv_has ls1 9 [(0, .ref b), (1, .ref x0), (2, .ref x9), (3, .ref ow), (4, .ref od), (5, .int (nI i))] → W p l e room_1 s m args below meth c H1 locs1 (cells + 2) (slots + 96) Q (F0 m 2834 ls1 [])) : W p l e room_1 s m args below meth c H locs cells slots Q (F0 m 2455 ls []) := by
  refine lv_aload_n hx hb dL_law_2455 rfl (lv_at hl 1 rfl) ?_
  refine lv_aload_n hx hb dL_law_2456 rfl (lv_at hl 0 rfl) ?_
  refine lv_iload hx hb dL_law_2457 (lv_at hl 5 rfl) ?_
  refine lv_iconst (v := 1) hx hb dL_law_2459 (by decide) ?_
  refine lv_iadd hx hb dL_law_2460 ?_
  refine z_top (y := nI (i + 1)) (nI_add i 1) ?_
  refine va_sld hx hb hX hbl (Nat.not_le.mpr hbl) hS (vp_in_nI (n := i + 1) (by omega) (by omega)) dL_law_2461 ?_
  refine z_top (y := xs (i + 1)) (by rw [nI_clamp (by omega)]) ?_
  refine lv_i2c hx hb dL_law_2462 rfl ?_
  refine lv_aload_n hx hb dL_law_2463 rfl (lv_at hl 3 rfl) ?_
  obtain ⟨Φ, Ψ, hM1, hM2, hpure⟩ := harm
  refine zlS (As := [.ref x0, .int ((xs (i + 1)).toUInt32 % 65536).toInt32, .ref ow]) (rest := []) (hh := [(0, 9, 12, 15), (0, 9, 15, 128)]) hg.1.1.1.1.1 ⟨hx, hb, hml, hown, hts⟩ hM1 (vx_cwSW 3 hts gL_law_L_appendInput rfl rfl rfl (by decide +kernel) ⟨Nat.le_of_ble_eq_true rfl, Nat.le_of_ble_eq_true rfl⟩) hG hK hP hD hS (fun _ h => h) rfl hl.1 rfl (Nat.le_of_ble_eq_true rfl) dL_law_2464 ⟨hrc, hrs⟩ (fun w1 o1 H locs h1 hP hD hS => ?_)
  obtain ⟨k, rfl, h1⟩ := h1
  have hP := va_P_swap hP
  have hD := va_D_swap hD
  refine lv_istore (lv' := [(6, .int k), (0, .ref b), (1, .ref x0), (2, .ref x9), (3, .ref ow), (4, .ref od), (5, .int (nI i))]) hx hb dL_law_2467 hl (by decide) rfl (fun ls hl => ?_)
  refine lv_aload_n hx hb dL_law_2469 rfl (lv_at hl 3 rfl) ?_
  refine lv_aload_n hx hb dL_law_2470 rfl (lv_at hl 1 rfl) ?_
  refine lv_iload hx hb dL_law_2471 (lv_at hl 6 rfl) ?_
  refine lv_iconst (v := 1) hx hb dL_law_2473 (by decide) ?_
  refine lv_iadd hx hb dL_law_2474 ?_
  refine z_top (y := nI (i + 1)) (nI_add i 1) ?_
  refine va_sld hx hb hX hbl (Nat.not_le.mpr hbl) hS (vp_in_nI (n := i + 1) (by omega) (by omega)) dL_law_2475 ?_
  refine z_top (y := xs (i + 1)) (by rw [nI_clamp (by omega)]) ?_
  refine lv_i2c hx hb dL_law_2476 rfl ?_
  obtain ⟨⟨fs0, e0⟩, fs9, e9⟩ := hhd _ _ hI
  refine zlV (ci := 10) (As := [.int ((xs (i + 1)).toUInt32 % 65536).toInt32]) (rest := []) 0 hg.1.1.1.1.1 ⟨hx, hb, hml, hown, hts⟩ hM2 (cwV 1 hts gL_law_X6_appendInput rfl rfl rfl (by decide +kernel) ⟨Nat.le_of_ble_eq_true rfl, Nat.le_of_ble_eq_true rfl⟩) hG hK hP hD hS (fun _ h => h) rfl e9 rfl hl.1 rfl (Nat.le_of_ble_eq_true rfl) dL_law_2477 ⟨hrc, hrs⟩ (fun m1 o2 H locs h2 hP hD hS => ?_)
  obtain ⟨bb, rfl, h2⟩ := h2
  obtain ⟨hth, hko, hI1⟩ := hpure w1 k m1 bb h1 h2
  refine lv_istore (lv' := [(7, .int bb), (6, .int k), (0, .ref b), (1, .ref x0), (2, .ref x9), (3, .ref ow), (4, .ref od), (5, .int (nI i))]) hx hb dL_law_2480 hl (by decide) rfl (fun ls hl => ?_)
  refine lv_aload_n hx hb dL_law_2482 rfl (lv_at hl 4 rfl) ?_
  obtain ⟨⟨fs1, e1⟩, fs2, e2⟩ := hhd _ _ hI1
  refine zlV (ci := 10) (As := []) (rest := []) 0 hg.1.1.1.1.1 ⟨hx, hb, hml, hown, hts⟩ hth (cwV 0 hts gL_law_X6_thrown rfl rfl rfl (by decide +kernel) ⟨Nat.le_of_ble_eq_true rfl, Nat.le_of_ble_eq_true rfl⟩) hG hK hP hD hS (fun _ h => h) rfl e2 rfl hl.1 rfl (Nat.le_of_ble_eq_true rfl) dL_law_2483 ⟨hrc, hrs⟩ (fun m2 o3 H locs h3 hP hD hS => ?_)
  obtain ⟨em, rfl⟩ := h3
  rw [em] at hP hD
  have hP := va_P_swap hP
  have hD := va_D_swap hD
  refine lv_iload hx hb dL_law_2486 (lv_at hl 1 rfl) ?_
  refine lv_icmp_eq (tgt := 2493) hx hb dL_law_2488 (by decide) (fun c9 => ?_) (fun c9 => ?_)
  · skip
    refine lv_iload hx hb dL_law_2493 (lv_at hl 1 rfl) ?_
    refine lv_if_ne (tgt := 2510) hx hb dL_law_2495 (by decide) (fun c9 => ?_) (fun c9 => ?_)
    · skip
      refine lv_goto (tgt := 2834) hx hb dL_law_2510 (by decide) ?_
      exact kn w1 m1 H locs ls hI1 hP hD hS (lv_sub hl [2, 3, 4, 5, 6, 7] rfl)
    · skip
      obtain ⟨f, h47, hf⟩ := hko c9
      refine lv_aload_n hx hb dL_law_2498 rfl (lv_at hl 5 rfl) ?_
      refine lv_iconst (v := 0) hx hb dL_law_2499 (by decide) ?_
      refine z_top (y := nI 0) rfl ?_
      refine va_lald hx hb hK hP 47 3 (z_inl h47) rfl (vp_in_nI (n := 0) (by decide) (by decide)) dL_law_2500 ?_
      rw [show f (nI 0).toNatClampNeg = _ from hf]
      refine lv_iload hx hb dL_law_2501 (lv_at hl 0 rfl) ?_
      refine lv_i2l hx hb dL_law_2503 rfl ?_
      refine W.lcmp hx hb dL_law_2504 ?_
      refine z_top (y := 0) (lg_cmp_rf rfl) ?_
      refine lv_if_eq (tgt := 2510) hx hb dL_law_2505 (by decide) (fun c9 => ?_) (fun c9 => ?_)
      · skip
        refine lv_goto (tgt := 2834) hx hb dL_law_2510 (by decide) ?_
        exact kn w1 m1 H locs ls hI1 hP hD hS (lv_sub hl [2, 3, 4, 5, 6, 7] rfl)
      · exact absurd rfl c9
  · exact absurd rfl c9

set_option maxHeartbeats 4000000 in
set_option maxRecDepth 100000 in
/-- execute -/
theorem law_53 {G : zG} (hg : zGW G) {l : Launch} {D : va_G} {cy : Nat → ClassId} {I : va_W → va_W → Prop} {x0 x9 ow od b L : Nat} {xs : Nat → Int32} {p : Program} {e : Env} {s : State} {m : MethodId} {args : Array Value} {below : List Frame} {meth : Method} {c : Code} {H : Heap} {locs : List Loc} {cells slots : Nat} {Q : State → Prop} (hx : p.tables.exec = Jvm.exec) (hb : c.code = cL_law) (hml : c.maxLocals = 9) (hown : s.vm.findClass RL = some m.cls) (hts : ∀ w ∈ wsL_law, w.before args s = true) (hG : G (fun q => s.heap.size ≤ q) s) (hK : va_K D vwCl (zT cy) s) (hX : va_X b L xs s s.heap) (hbl : b < s.heap.size) {w mw : va_W} {i : Nat} (hi : i + 2 < L) (hL : L ≤ 1536) (hI : I w mw) (hhd : ∀ w m, I w m → zHd x0 x9 w m) (hP : va_P D vwCl (w ++ mw) H) (hD : va_D (fun q => s.heap.size ≤ q) (w ++ mw)) (hS : va_S (fun q => s.heap.size ≤ q) s.heap H locs) (ls : Array Slot) (hl : lv_has ls 9 [(0, .ref b), (1, .ref x0), (2, .ref x9), (3, .ref ow), (4, .ref od), (5, .int (nI i))]) (hrc : cells + 2 ≤ 603072) (hrs : slots + 96 ≤ 7202922) (harm : zArmS G D cy l I x9 yL_execute wsL_execute [.ref x0, .ref ow] yX6_execute wsX6_execute [.ref x9] (fun w' b => zOut ow cy w' b.toInt64) w mw) (kn : ∀ (w' m' : va_W) (H1 : Heap) (locs1 : List Loc) (ls1 : Array Slot), I w' m' → va_P D vwCl (w' ++ m') H1 → va_D (fun q => s.heap.size ≤ q) (w' ++ m') → va_S (fun q => s.heap.size ≤ q) s.heap H1 locs1 → lv_has ls1 9 [(0, .ref b), (1, .ref x0), (2, .ref x9), (3, .ref ow), (4, .ref od), (5, .int (nI i))] → W p l e room_1 s m args below meth c H1 locs1 (cells + 2) (slots + 96) Q (F0 m 2834 ls1 [])) : W p l e room_1 s m args below meth c H locs cells slots Q (F0 m 2513 ls []) := by
  refine lv_aload_n hx hb dL_law_2513 rfl (lv_at hl 1 rfl) ?_
  refine lv_aload_n hx hb dL_law_2514 rfl (lv_at hl 3 rfl) ?_
  obtain ⟨Φ, Ψ, hM1, hM2, hpure⟩ := harm
  refine zlS (As := [.ref x0, .ref ow]) (rest := []) (hh := [(0, 8, 11, 15), (0, 8, 14, 128), (0, 8, 17, 17)]) hg.1.1.1.1.1 ⟨hx, hb, hml, hown, hts⟩ hM1 (vx_cwSW 2 hts gL_law_L_execute rfl rfl rfl (by decide +kernel) ⟨Nat.le_of_ble_eq_true rfl, Nat.le_of_ble_eq_true rfl⟩) hG hK hP hD hS (fun _ h => h) rfl hl.1 rfl (Nat.le_of_ble_eq_true rfl) dL_law_2515 ⟨hrc, hrs⟩ (fun w1 o1 H locs h1 hP hD hS => ?_)
  obtain ⟨k, rfl, h1⟩ := h1
  have hP := va_P_swap hP
  have hD := va_D_swap hD
  refine lv_istore (lv' := [(6, .int k), (0, .ref b), (1, .ref x0), (2, .ref x9), (3, .ref ow), (4, .ref od), (5, .int (nI i))]) hx hb dL_law_2518 hl (by decide) rfl (fun ls hl => ?_)
  refine lv_aload_n hx hb dL_law_2520 rfl (lv_at hl 3 rfl) ?_
  obtain ⟨⟨fs0, e0⟩, fs9, e9⟩ := hhd _ _ hI
  refine zlV (ci := 10) (As := []) (rest := []) 0 hg.1.1.1.1.1 ⟨hx, hb, hml, hown, hts⟩ hM2 (cwV 0 hts gL_law_X6_execute rfl rfl rfl (by decide +kernel) ⟨Nat.le_of_ble_eq_true rfl, Nat.le_of_ble_eq_true rfl⟩) hG hK hP hD hS (fun _ h => h) rfl e9 rfl hl.1 rfl (Nat.le_of_ble_eq_true rfl) dL_law_2521 ⟨hrc, hrs⟩ (fun m1 o2 H locs h2 hP hD hS => ?_)
  obtain ⟨bb, rfl, h2⟩ := h2
  obtain ⟨hth, hko, hI1⟩ := hpure w1 k m1 bb h1 h2
  refine lv_istore (lv' := [(7, .int bb), (6, .int k), (0, .ref b), (1, .ref x0), (2, .ref x9), (3, .ref ow), (4, .ref od), (5, .int (nI i))]) hx hb dL_law_2524 hl (by decide) rfl (fun ls hl => ?_)
  refine lv_aload_n hx hb dL_law_2526 rfl (lv_at hl 4 rfl) ?_
  obtain ⟨⟨fs1, e1⟩, fs2, e2⟩ := hhd _ _ hI1
  refine zlV (ci := 10) (As := []) (rest := []) 0 hg.1.1.1.1.1 ⟨hx, hb, hml, hown, hts⟩ hth (cwV 0 hts gL_law_X6_thrown rfl rfl rfl (by decide +kernel) ⟨Nat.le_of_ble_eq_true rfl, Nat.le_of_ble_eq_true rfl⟩) hG hK hP hD hS (fun _ h => h) rfl e2 rfl hl.1 rfl (Nat.le_of_ble_eq_true rfl) dL_law_2527 ⟨hrc, hrs⟩ (fun m2 o3 H locs h3 hP hD hS => ?_)
  obtain ⟨em, rfl⟩ := h3
  rw [em] at hP hD
  have hP := va_P_swap hP
  have hD := va_D_swap hD
  refine lv_iload hx hb dL_law_2530 (lv_at hl 1 rfl) ?_
  refine lv_icmp_eq (tgt := 2537) hx hb dL_law_2532 (by decide) (fun c9 => ?_) (fun c9 => ?_)
  · skip
    refine lv_iload hx hb dL_law_2537 (lv_at hl 1 rfl) ?_
    refine lv_if_ne (tgt := 2554) hx hb dL_law_2539 (by decide) (fun c9 => ?_) (fun c9 => ?_)
    · skip
      refine lv_goto (tgt := 2834) hx hb dL_law_2554 (by decide) ?_
      exact kn w1 m1 H locs ls hI1 hP hD hS (lv_sub hl [2, 3, 4, 5, 6, 7] rfl)
    · skip
      obtain ⟨f, h47, hf⟩ := hko c9
      refine lv_aload_n hx hb dL_law_2542 rfl (lv_at hl 5 rfl) ?_
      refine lv_iconst (v := 0) hx hb dL_law_2543 (by decide) ?_
      refine z_top (y := nI 0) rfl ?_
      refine va_lald hx hb hK hP 47 3 (z_inl h47) rfl (vp_in_nI (n := 0) (by decide) (by decide)) dL_law_2544 ?_
      rw [show f (nI 0).toNatClampNeg = _ from hf]
      refine lv_iload hx hb dL_law_2545 (lv_at hl 0 rfl) ?_
      refine lv_i2l hx hb dL_law_2547 rfl ?_
      refine W.lcmp hx hb dL_law_2548 ?_
      refine z_top (y := 0) (lg_cmp_rf rfl) ?_
      refine lv_if_eq (tgt := 2554) hx hb dL_law_2549 (by decide) (fun c9 => ?_) (fun c9 => ?_)
      · skip
        refine lv_goto (tgt := 2834) hx hb dL_law_2554 (by decide) ?_
        exact kn w1 m1 H locs ls hI1 hP hD hS (lv_sub hl [2, 3, 4, 5, 6, 7] rfl)
      · exact absurd rfl c9
  · exact absurd rfl c9

set_option maxHeartbeats 4000000 in
set_option maxRecDepth 100000 in
/-- syntaxErrorOffset -/
theorem law_54 {G : zG} (hg : zGW G) {l : Launch} {D : va_G} {cy : Nat → ClassId} {I : va_W → va_W → Prop} {x0 x9 ow od b L : Nat} {xs : Nat → Int32} {p : Program} {e : Env} {s : State} {m : MethodId} {args : Array Value} {below : List Frame} {meth : Method} {c : Code} {H : Heap} {locs : List Loc} {cells slots : Nat} {Q : State → Prop} (hx : p.tables.exec = Jvm.exec) (hb : c.code = cL_law) (hml : c.maxLocals = 9) (hown : s.vm.findClass RL = some m.cls) (hts : ∀ w ∈ wsL_law, w.before args s = true) (hG : G (fun q => s.heap.size ≤ q) s) (hK : va_K D vwCl (zT cy) s) (hX : va_X b L xs s s.heap) (hbl : b < s.heap.size) {w mw : va_W} {i : Nat} (hi : i + 2 < L) (hL : L ≤ 1536) (hI : I w mw) (hhd : ∀ w m, I w m → zHd x0 x9 w m) (hP : va_P D vwCl (w ++ mw) H) (hD : va_D (fun q => s.heap.size ≤ q) (w ++ mw)) (hS : va_S (fun q => s.heap.size ≤ q) s.heap H locs) (ls : Array Slot) (hl : lv_has ls 9 [(0, .ref b), (1, .ref x0), (2, .ref x9), (3, .ref ow), (4, .ref od), (5, .int (nI i))]) (hrc : cells + 2 ≤ 603072) (hrs : slots + 96 ≤ 7202922) (harm : zArmS G D cy l I x9 yL_syntaxErrorOffset wsL_syntaxErrorOffset [.ref x0, .ref ow] yX6_syntaxErrorOffset wsX6_syntaxErrorOffset [.ref x9] (fun w' b => zOut ow cy w' b.toInt64) w mw) (kn : ∀ (w' m' : va_W) (H1 : Heap) (locs1 : List Loc) (ls1 : Array Slot), I w' m' → va_P D vwCl (w' ++ m') H1 → va_D (fun q => s.heap.size ≤ q) (w' ++ m') → va_S (fun q => s.heap.size ≤ q) s.heap H1 locs1 → lv_has ls1 9 [(0, .ref b), (1, .ref x0), (2, .ref x9), (3, .ref ow), (4, .ref od), (5, .int (nI i))] → W p l e room_1 s m args below meth c H1 locs1 (cells + 2) (slots + 96) Q (F0 m 2834 ls1 [])) : W p l e room_1 s m args below meth c H locs cells slots Q (F0 m 2557 ls []) := by
  refine lv_aload_n hx hb dL_law_2557 rfl (lv_at hl 1 rfl) ?_
  refine lv_aload_n hx hb dL_law_2558 rfl (lv_at hl 3 rfl) ?_
  obtain ⟨Φ, Ψ, hM1, hM2, hpure⟩ := harm
  refine zlS (As := [.ref x0, .ref ow]) (rest := []) (hh := [(0, 8, 11, 53)]) hg.1.1.1.1.1 ⟨hx, hb, hml, hown, hts⟩ hM1 (vx_cwSW 2 hts gL_law_L_syntaxErrorOffset rfl rfl rfl (by decide +kernel) ⟨Nat.le_of_ble_eq_true rfl, Nat.le_of_ble_eq_true rfl⟩) hG hK hP hD hS (fun _ h => h) rfl hl.1 rfl (Nat.le_of_ble_eq_true rfl) dL_law_2559 ⟨hrc, hrs⟩ (fun w1 o1 H locs h1 hP hD hS => ?_)
  obtain ⟨k, rfl, h1⟩ := h1
  have hP := va_P_swap hP
  have hD := va_D_swap hD
  refine lv_istore (lv' := [(6, .int k), (0, .ref b), (1, .ref x0), (2, .ref x9), (3, .ref ow), (4, .ref od), (5, .int (nI i))]) hx hb dL_law_2562 hl (by decide) rfl (fun ls hl => ?_)
  refine lv_aload_n hx hb dL_law_2564 rfl (lv_at hl 3 rfl) ?_
  obtain ⟨⟨fs0, e0⟩, fs9, e9⟩ := hhd _ _ hI
  refine zlV (ci := 10) (As := []) (rest := []) 0 hg.1.1.1.1.1 ⟨hx, hb, hml, hown, hts⟩ hM2 (cwV 0 hts gL_law_X6_syntaxErrorOffset rfl rfl rfl (by decide +kernel) ⟨Nat.le_of_ble_eq_true rfl, Nat.le_of_ble_eq_true rfl⟩) hG hK hP hD hS (fun _ h => h) rfl e9 rfl hl.1 rfl (Nat.le_of_ble_eq_true rfl) dL_law_2565 ⟨hrc, hrs⟩ (fun m1 o2 H locs h2 hP hD hS => ?_)
  obtain ⟨bb, rfl, h2⟩ := h2
  obtain ⟨hth, hko, hI1⟩ := hpure w1 k m1 bb h1 h2
  refine lv_istore (lv' := [(7, .int bb), (6, .int k), (0, .ref b), (1, .ref x0), (2, .ref x9), (3, .ref ow), (4, .ref od), (5, .int (nI i))]) hx hb dL_law_2568 hl (by decide) rfl (fun ls hl => ?_)
  refine lv_aload_n hx hb dL_law_2570 rfl (lv_at hl 4 rfl) ?_
  obtain ⟨⟨fs1, e1⟩, fs2, e2⟩ := hhd _ _ hI1
  refine zlV (ci := 10) (As := []) (rest := []) 0 hg.1.1.1.1.1 ⟨hx, hb, hml, hown, hts⟩ hth (cwV 0 hts gL_law_X6_thrown rfl rfl rfl (by decide +kernel) ⟨Nat.le_of_ble_eq_true rfl, Nat.le_of_ble_eq_true rfl⟩) hG hK hP hD hS (fun _ h => h) rfl e2 rfl hl.1 rfl (Nat.le_of_ble_eq_true rfl) dL_law_2571 ⟨hrc, hrs⟩ (fun m2 o3 H locs h3 hP hD hS => ?_)
  obtain ⟨em, rfl⟩ := h3
  rw [em] at hP hD
  have hP := va_P_swap hP
  have hD := va_D_swap hD
  refine lv_iload hx hb dL_law_2574 (lv_at hl 1 rfl) ?_
  refine lv_icmp_eq (tgt := 2581) hx hb dL_law_2576 (by decide) (fun c9 => ?_) (fun c9 => ?_)
  · skip
    refine lv_iload hx hb dL_law_2581 (lv_at hl 1 rfl) ?_
    refine lv_if_ne (tgt := 2598) hx hb dL_law_2583 (by decide) (fun c9 => ?_) (fun c9 => ?_)
    · skip
      refine lv_goto (tgt := 2834) hx hb dL_law_2598 (by decide) ?_
      exact kn w1 m1 H locs ls hI1 hP hD hS (lv_sub hl [2, 3, 4, 5, 6, 7] rfl)
    · skip
      obtain ⟨f, h47, hf⟩ := hko c9
      refine lv_aload_n hx hb dL_law_2586 rfl (lv_at hl 5 rfl) ?_
      refine lv_iconst (v := 0) hx hb dL_law_2587 (by decide) ?_
      refine z_top (y := nI 0) rfl ?_
      refine va_lald hx hb hK hP 47 3 (z_inl h47) rfl (vp_in_nI (n := 0) (by decide) (by decide)) dL_law_2588 ?_
      rw [show f (nI 0).toNatClampNeg = _ from hf]
      refine lv_iload hx hb dL_law_2589 (lv_at hl 0 rfl) ?_
      refine lv_i2l hx hb dL_law_2591 rfl ?_
      refine W.lcmp hx hb dL_law_2592 ?_
      refine z_top (y := 0) (lg_cmp_rf rfl) ?_
      refine lv_if_eq (tgt := 2598) hx hb dL_law_2593 (by decide) (fun c9 => ?_) (fun c9 => ?_)
      · skip
        refine lv_goto (tgt := 2834) hx hb dL_law_2598 (by decide) ?_
        exact kn w1 m1 H locs ls hI1 hP hD hS (lv_sub hl [2, 3, 4, 5, 6, 7] rfl)
      · exact absurd rfl c9
  · exact absurd rfl c9

set_option maxHeartbeats 4000000 in
set_option maxRecDepth 100000 in
/-- rejectionReason -/
theorem law_55 {G : zG} (hg : zGW G) {l : Launch} {D : va_G} {cy : Nat → ClassId} {I : va_W → va_W → Prop} {x0 x9 ow od b L : Nat} {xs : Nat → Int32} {p : Program} {e : Env} {s : State} {m : MethodId} {args : Array Value} {below : List Frame} {meth : Method} {c : Code} {H : Heap} {locs : List Loc} {cells slots : Nat} {Q : State → Prop} (hx : p.tables.exec = Jvm.exec) (hb : c.code = cL_law) (hml : c.maxLocals = 9) (hown : s.vm.findClass RL = some m.cls) (hts : ∀ w ∈ wsL_law, w.before args s = true) (hG : G (fun q => s.heap.size ≤ q) s) (hK : va_K D vwCl (zT cy) s) (hX : va_X b L xs s s.heap) (hbl : b < s.heap.size) {w mw : va_W} {i : Nat} (hi : i + 2 < L) (hL : L ≤ 1536) (hI : I w mw) (hhd : ∀ w m, I w m → zHd x0 x9 w m) (hP : va_P D vwCl (w ++ mw) H) (hD : va_D (fun q => s.heap.size ≤ q) (w ++ mw)) (hS : va_S (fun q => s.heap.size ≤ q) s.heap H locs) (ls : Array Slot) (hl : lv_has ls 9 [(0, .ref b), (1, .ref x0), (2, .ref x9), (3, .ref ow), (4, .ref od), (5, .int (nI i))]) (hrc : cells + 2 ≤ 603072) (hrs : slots + 96 ≤ 7202922) (harm : zArmS G D cy l I x9 yL_rejectionReason wsL_rejectionReason [.ref x0, .ref ow] yX6_rejectionReason wsX6_rejectionReason [.ref x9] (fun w' b => zOut ow cy w' b.toInt64) w mw) (kn : ∀ (w' m' : va_W) (H1 : Heap) (locs1 : List Loc) (ls1 : Array Slot), I w' m' → va_P D vwCl (w' ++ m') H1 → va_D (fun q => s.heap.size ≤ q) (w' ++ m') → va_S (fun q => s.heap.size ≤ q) s.heap H1 locs1 → lv_has ls1 9 [(0, .ref b), (1, .ref x0), (2, .ref x9), (3, .ref ow), (4, .ref od), (5, .int (nI i))] → W p l e room_1 s m args below meth c H1 locs1 (cells + 2) (slots + 96) Q (F0 m 2834 ls1 [])) : W p l e room_1 s m args below meth c H locs cells slots Q (F0 m 2601 ls []) := by
  refine lv_aload_n hx hb dL_law_2601 rfl (lv_at hl 1 rfl) ?_
  refine lv_aload_n hx hb dL_law_2602 rfl (lv_at hl 3 rfl) ?_
  obtain ⟨Φ, Ψ, hM1, hM2, hpure⟩ := harm
  refine zlS (As := [.ref x0, .ref ow]) (rest := []) (hh := [(0, 8, 11, 53)]) hg.1.1.1.1.1 ⟨hx, hb, hml, hown, hts⟩ hM1 (vx_cwSW 2 hts gL_law_L_rejectionReason rfl rfl rfl (by decide +kernel) ⟨Nat.le_of_ble_eq_true rfl, Nat.le_of_ble_eq_true rfl⟩) hG hK hP hD hS (fun _ h => h) rfl hl.1 rfl (Nat.le_of_ble_eq_true rfl) dL_law_2603 ⟨hrc, hrs⟩ (fun w1 o1 H locs h1 hP hD hS => ?_)
  obtain ⟨k, rfl, h1⟩ := h1
  have hP := va_P_swap hP
  have hD := va_D_swap hD
  refine lv_istore (lv' := [(6, .int k), (0, .ref b), (1, .ref x0), (2, .ref x9), (3, .ref ow), (4, .ref od), (5, .int (nI i))]) hx hb dL_law_2606 hl (by decide) rfl (fun ls hl => ?_)
  refine lv_aload_n hx hb dL_law_2608 rfl (lv_at hl 3 rfl) ?_
  obtain ⟨⟨fs0, e0⟩, fs9, e9⟩ := hhd _ _ hI
  refine zlV (ci := 10) (As := []) (rest := []) 0 hg.1.1.1.1.1 ⟨hx, hb, hml, hown, hts⟩ hM2 (cwV 0 hts gL_law_X6_rejectionReason rfl rfl rfl (by decide +kernel) ⟨Nat.le_of_ble_eq_true rfl, Nat.le_of_ble_eq_true rfl⟩) hG hK hP hD hS (fun _ h => h) rfl e9 rfl hl.1 rfl (Nat.le_of_ble_eq_true rfl) dL_law_2609 ⟨hrc, hrs⟩ (fun m1 o2 H locs h2 hP hD hS => ?_)
  obtain ⟨bb, rfl, h2⟩ := h2
  obtain ⟨hth, hko, hI1⟩ := hpure w1 k m1 bb h1 h2
  refine lv_istore (lv' := [(7, .int bb), (6, .int k), (0, .ref b), (1, .ref x0), (2, .ref x9), (3, .ref ow), (4, .ref od), (5, .int (nI i))]) hx hb dL_law_2612 hl (by decide) rfl (fun ls hl => ?_)
  refine lv_aload_n hx hb dL_law_2614 rfl (lv_at hl 4 rfl) ?_
  obtain ⟨⟨fs1, e1⟩, fs2, e2⟩ := hhd _ _ hI1
  refine zlV (ci := 10) (As := []) (rest := []) 0 hg.1.1.1.1.1 ⟨hx, hb, hml, hown, hts⟩ hth (cwV 0 hts gL_law_X6_thrown rfl rfl rfl (by decide +kernel) ⟨Nat.le_of_ble_eq_true rfl, Nat.le_of_ble_eq_true rfl⟩) hG hK hP hD hS (fun _ h => h) rfl e2 rfl hl.1 rfl (Nat.le_of_ble_eq_true rfl) dL_law_2615 ⟨hrc, hrs⟩ (fun m2 o3 H locs h3 hP hD hS => ?_)
  obtain ⟨em, rfl⟩ := h3
  rw [em] at hP hD
  have hP := va_P_swap hP
  have hD := va_D_swap hD
  refine lv_iload hx hb dL_law_2618 (lv_at hl 1 rfl) ?_
  refine lv_icmp_eq (tgt := 2625) hx hb dL_law_2620 (by decide) (fun c9 => ?_) (fun c9 => ?_)
  · skip
    refine lv_iload hx hb dL_law_2625 (lv_at hl 1 rfl) ?_
    refine lv_if_ne (tgt := 2642) hx hb dL_law_2627 (by decide) (fun c9 => ?_) (fun c9 => ?_)
    · skip
      refine lv_goto (tgt := 2834) hx hb dL_law_2642 (by decide) ?_
      exact kn w1 m1 H locs ls hI1 hP hD hS (lv_sub hl [2, 3, 4, 5, 6, 7] rfl)
    · skip
      obtain ⟨f, h47, hf⟩ := hko c9
      refine lv_aload_n hx hb dL_law_2630 rfl (lv_at hl 5 rfl) ?_
      refine lv_iconst (v := 0) hx hb dL_law_2631 (by decide) ?_
      refine z_top (y := nI 0) rfl ?_
      refine va_lald hx hb hK hP 47 3 (z_inl h47) rfl (vp_in_nI (n := 0) (by decide) (by decide)) dL_law_2632 ?_
      rw [show f (nI 0).toNatClampNeg = _ from hf]
      refine lv_iload hx hb dL_law_2633 (lv_at hl 0 rfl) ?_
      refine lv_i2l hx hb dL_law_2635 rfl ?_
      refine W.lcmp hx hb dL_law_2636 ?_
      refine z_top (y := 0) (lg_cmp_rf rfl) ?_
      refine lv_if_eq (tgt := 2642) hx hb dL_law_2637 (by decide) (fun c9 => ?_) (fun c9 => ?_)
      · skip
        refine lv_goto (tgt := 2834) hx hb dL_law_2642 (by decide) ?_
        exact kn w1 m1 H locs ls hI1 hP hD hS (lv_sub hl [2, 3, 4, 5, 6, 7] rfl)
      · exact absurd rfl c9
  · exact absurd rfl c9

set_option maxHeartbeats 4000000 in
set_option maxRecDepth 100000 in
/-- rejectionDetail -/
theorem law_56 {G : zG} (hg : zGW G) {l : Launch} {D : va_G} {cy : Nat → ClassId} {I : va_W → va_W → Prop} {x0 x9 ow od b L : Nat} {xs : Nat → Int32} {p : Program} {e : Env} {s : State} {m : MethodId} {args : Array Value} {below : List Frame} {meth : Method} {c : Code} {H : Heap} {locs : List Loc} {cells slots : Nat} {Q : State → Prop} (hx : p.tables.exec = Jvm.exec) (hb : c.code = cL_law) (hml : c.maxLocals = 9) (hown : s.vm.findClass RL = some m.cls) (hts : ∀ w ∈ wsL_law, w.before args s = true) (hG : G (fun q => s.heap.size ≤ q) s) (hK : va_K D vwCl (zT cy) s) (hX : va_X b L xs s s.heap) (hbl : b < s.heap.size) {w mw : va_W} {i : Nat} (hi : i + 2 < L) (hL : L ≤ 1536) (hI : I w mw) (hhd : ∀ w m, I w m → zHd x0 x9 w m) (hP : va_P D vwCl (w ++ mw) H) (hD : va_D (fun q => s.heap.size ≤ q) (w ++ mw)) (hS : va_S (fun q => s.heap.size ≤ q) s.heap H locs) (ls : Array Slot) (hl : lv_has ls 9 [(0, .ref b), (1, .ref x0), (2, .ref x9), (3, .ref ow), (4, .ref od), (5, .int (nI i))]) (hrc : cells + 2 ≤ 603072) (hrs : slots + 96 ≤ 7202922) (harm : zArmS G D cy l I x9 yL_rejectionDetail wsL_rejectionDetail [.ref x0, .ref ow] yX6_rejectionDetail wsX6_rejectionDetail [.ref x9] (fun w' b => zOut ow cy w' b.toInt64) w mw) (kn : ∀ (w' m' : va_W) (H1 : Heap) (locs1 : List Loc) (ls1 : Array Slot), I w' m' → va_P D vwCl (w' ++ m') H1 → va_D (fun q => s.heap.size ≤ q) (w' ++ m') → va_S (fun q => s.heap.size ≤ q) s.heap H1 locs1 → lv_has ls1 9 [(0, .ref b), (1, .ref x0), (2, .ref x9), (3, .ref ow), (4, .ref od), (5, .int (nI i))] → W p l e room_1 s m args below meth c H1 locs1 (cells + 2) (slots + 96) Q (F0 m 2834 ls1 [])) : W p l e room_1 s m args below meth c H locs cells slots Q (F0 m 2645 ls []) := by
  refine lv_aload_n hx hb dL_law_2645 rfl (lv_at hl 1 rfl) ?_
  refine lv_aload_n hx hb dL_law_2646 rfl (lv_at hl 3 rfl) ?_
  obtain ⟨Φ, Ψ, hM1, hM2, hpure⟩ := harm
  refine zlS (As := [.ref x0, .ref ow]) (rest := []) (hh := [(0, 8, 11, 53)]) hg.1.1.1.1.1 ⟨hx, hb, hml, hown, hts⟩ hM1 (vx_cwSW 2 hts gL_law_L_rejectionDetail rfl rfl rfl (by decide +kernel) ⟨Nat.le_of_ble_eq_true rfl, Nat.le_of_ble_eq_true rfl⟩) hG hK hP hD hS (fun _ h => h) rfl hl.1 rfl (Nat.le_of_ble_eq_true rfl) dL_law_2647 ⟨hrc, hrs⟩ (fun w1 o1 H locs h1 hP hD hS => ?_)
  obtain ⟨k, rfl, h1⟩ := h1
  have hP := va_P_swap hP
  have hD := va_D_swap hD
  refine lv_istore (lv' := [(6, .int k), (0, .ref b), (1, .ref x0), (2, .ref x9), (3, .ref ow), (4, .ref od), (5, .int (nI i))]) hx hb dL_law_2650 hl (by decide) rfl (fun ls hl => ?_)
  refine lv_aload_n hx hb dL_law_2652 rfl (lv_at hl 3 rfl) ?_
  obtain ⟨⟨fs0, e0⟩, fs9, e9⟩ := hhd _ _ hI
  refine zlV (ci := 10) (As := []) (rest := []) 0 hg.1.1.1.1.1 ⟨hx, hb, hml, hown, hts⟩ hM2 (cwV 0 hts gL_law_X6_rejectionDetail rfl rfl rfl (by decide +kernel) ⟨Nat.le_of_ble_eq_true rfl, Nat.le_of_ble_eq_true rfl⟩) hG hK hP hD hS (fun _ h => h) rfl e9 rfl hl.1 rfl (Nat.le_of_ble_eq_true rfl) dL_law_2653 ⟨hrc, hrs⟩ (fun m1 o2 H locs h2 hP hD hS => ?_)
  obtain ⟨bb, rfl, h2⟩ := h2
  obtain ⟨hth, hko, hI1⟩ := hpure w1 k m1 bb h1 h2
  refine lv_istore (lv' := [(7, .int bb), (6, .int k), (0, .ref b), (1, .ref x0), (2, .ref x9), (3, .ref ow), (4, .ref od), (5, .int (nI i))]) hx hb dL_law_2656 hl (by decide) rfl (fun ls hl => ?_)
  refine lv_aload_n hx hb dL_law_2658 rfl (lv_at hl 4 rfl) ?_
  obtain ⟨⟨fs1, e1⟩, fs2, e2⟩ := hhd _ _ hI1
  refine zlV (ci := 10) (As := []) (rest := []) 0 hg.1.1.1.1.1 ⟨hx, hb, hml, hown, hts⟩ hth (cwV 0 hts gL_law_X6_thrown rfl rfl rfl (by decide +kernel) ⟨Nat.le_of_ble_eq_true rfl, Nat.le_of_ble_eq_true rfl⟩) hG hK hP hD hS (fun _ h => h) rfl e2 rfl hl.1 rfl (Nat.le_of_ble_eq_true rfl) dL_law_2659 ⟨hrc, hrs⟩ (fun m2 o3 H locs h3 hP hD hS => ?_)
  obtain ⟨em, rfl⟩ := h3
  rw [em] at hP hD
  have hP := va_P_swap hP
  have hD := va_D_swap hD
  refine lv_iload hx hb dL_law_2662 (lv_at hl 1 rfl) ?_
  refine lv_icmp_eq (tgt := 2669) hx hb dL_law_2664 (by decide) (fun c9 => ?_) (fun c9 => ?_)
  · skip
    refine lv_iload hx hb dL_law_2669 (lv_at hl 1 rfl) ?_
    refine lv_if_ne (tgt := 2686) hx hb dL_law_2671 (by decide) (fun c9 => ?_) (fun c9 => ?_)
    · skip
      refine lv_goto (tgt := 2834) hx hb dL_law_2686 (by decide) ?_
      exact kn w1 m1 H locs ls hI1 hP hD hS (lv_sub hl [2, 3, 4, 5, 6, 7] rfl)
    · skip
      obtain ⟨f, h47, hf⟩ := hko c9
      refine lv_aload_n hx hb dL_law_2674 rfl (lv_at hl 5 rfl) ?_
      refine lv_iconst (v := 0) hx hb dL_law_2675 (by decide) ?_
      refine z_top (y := nI 0) rfl ?_
      refine va_lald hx hb hK hP 47 3 (z_inl h47) rfl (vp_in_nI (n := 0) (by decide) (by decide)) dL_law_2676 ?_
      rw [show f (nI 0).toNatClampNeg = _ from hf]
      refine lv_iload hx hb dL_law_2677 (lv_at hl 0 rfl) ?_
      refine lv_i2l hx hb dL_law_2679 rfl ?_
      refine W.lcmp hx hb dL_law_2680 ?_
      refine z_top (y := 0) (lg_cmp_rf rfl) ?_
      refine lv_if_eq (tgt := 2686) hx hb dL_law_2681 (by decide) (fun c9 => ?_) (fun c9 => ?_)
      · skip
        refine lv_goto (tgt := 2834) hx hb dL_law_2686 (by decide) ?_
        exact kn w1 m1 H locs ls hI1 hP hD hS (lv_sub hl [2, 3, 4, 5, 6, 7] rfl)
      · exact absurd rfl c9
  · exact absurd rfl c9

set_option maxHeartbeats 4000000 in
set_option maxRecDepth 100000 in
/-- causeReason -/
theorem law_57 {G : zG} (hg : zGW G) {l : Launch} {D : va_G} {cy : Nat → ClassId} {I : va_W → va_W → Prop} {x0 x9 ow od b L : Nat} {xs : Nat → Int32} {p : Program} {e : Env} {s : State} {m : MethodId} {args : Array Value} {below : List Frame} {meth : Method} {c : Code} {H : Heap} {locs : List Loc} {cells slots : Nat} {Q : State → Prop} (hx : p.tables.exec = Jvm.exec) (hb : c.code = cL_law) (hml : c.maxLocals = 9) (hown : s.vm.findClass RL = some m.cls) (hts : ∀ w ∈ wsL_law, w.before args s = true) (hG : G (fun q => s.heap.size ≤ q) s) (hK : va_K D vwCl (zT cy) s) (hX : va_X b L xs s s.heap) (hbl : b < s.heap.size) {w mw : va_W} {i : Nat} (hi : i + 2 < L) (hL : L ≤ 1536) (hI : I w mw) (hhd : ∀ w m, I w m → zHd x0 x9 w m) (hP : va_P D vwCl (w ++ mw) H) (hD : va_D (fun q => s.heap.size ≤ q) (w ++ mw)) (hS : va_S (fun q => s.heap.size ≤ q) s.heap H locs) (ls : Array Slot) (hl : lv_has ls 9 [(0, .ref b), (1, .ref x0), (2, .ref x9), (3, .ref ow), (4, .ref od), (5, .int (nI i))]) (hrc : cells + 2 ≤ 603072) (hrs : slots + 96 ≤ 7202922) (harm : zArmS G D cy l I x9 yL_causeReason wsL_causeReason [.ref x0, .ref ow] yX6_causeReason wsX6_causeReason [.ref x9] (fun w' b => zOut ow cy w' b.toInt64) w mw) (kn : ∀ (w' m' : va_W) (H1 : Heap) (locs1 : List Loc) (ls1 : Array Slot), I w' m' → va_P D vwCl (w' ++ m') H1 → va_D (fun q => s.heap.size ≤ q) (w' ++ m') → va_S (fun q => s.heap.size ≤ q) s.heap H1 locs1 → lv_has ls1 9 [(0, .ref b), (1, .ref x0), (2, .ref x9), (3, .ref ow), (4, .ref od), (5, .int (nI i))] → W p l e room_1 s m args below meth c H1 locs1 (cells + 2) (slots + 96) Q (F0 m 2834 ls1 [])) : W p l e room_1 s m args below meth c H locs cells slots Q (F0 m 2689 ls []) := by
  refine lv_aload_n hx hb dL_law_2689 rfl (lv_at hl 1 rfl) ?_
  refine lv_aload_n hx hb dL_law_2690 rfl (lv_at hl 3 rfl) ?_
  obtain ⟨Φ, Ψ, hM1, hM2, hpure⟩ := harm
  refine zlS (As := [.ref x0, .ref ow]) (rest := []) (hh := [(0, 8, 11, 53)]) hg.1.1.1.1.1 ⟨hx, hb, hml, hown, hts⟩ hM1 (vx_cwSW 2 hts gL_law_L_causeReason rfl rfl rfl (by decide +kernel) ⟨Nat.le_of_ble_eq_true rfl, Nat.le_of_ble_eq_true rfl⟩) hG hK hP hD hS (fun _ h => h) rfl hl.1 rfl (Nat.le_of_ble_eq_true rfl) dL_law_2691 ⟨hrc, hrs⟩ (fun w1 o1 H locs h1 hP hD hS => ?_)
  obtain ⟨k, rfl, h1⟩ := h1
  have hP := va_P_swap hP
  have hD := va_D_swap hD
  refine lv_istore (lv' := [(6, .int k), (0, .ref b), (1, .ref x0), (2, .ref x9), (3, .ref ow), (4, .ref od), (5, .int (nI i))]) hx hb dL_law_2694 hl (by decide) rfl (fun ls hl => ?_)
  refine lv_aload_n hx hb dL_law_2696 rfl (lv_at hl 3 rfl) ?_
  obtain ⟨⟨fs0, e0⟩, fs9, e9⟩ := hhd _ _ hI
  refine zlV (ci := 10) (As := []) (rest := []) 0 hg.1.1.1.1.1 ⟨hx, hb, hml, hown, hts⟩ hM2 (cwV 0 hts gL_law_X6_causeReason rfl rfl rfl (by decide +kernel) ⟨Nat.le_of_ble_eq_true rfl, Nat.le_of_ble_eq_true rfl⟩) hG hK hP hD hS (fun _ h => h) rfl e9 rfl hl.1 rfl (Nat.le_of_ble_eq_true rfl) dL_law_2697 ⟨hrc, hrs⟩ (fun m1 o2 H locs h2 hP hD hS => ?_)
  obtain ⟨bb, rfl, h2⟩ := h2
  obtain ⟨hth, hko, hI1⟩ := hpure w1 k m1 bb h1 h2
  refine lv_istore (lv' := [(7, .int bb), (6, .int k), (0, .ref b), (1, .ref x0), (2, .ref x9), (3, .ref ow), (4, .ref od), (5, .int (nI i))]) hx hb dL_law_2700 hl (by decide) rfl (fun ls hl => ?_)
  refine lv_aload_n hx hb dL_law_2702 rfl (lv_at hl 4 rfl) ?_
  obtain ⟨⟨fs1, e1⟩, fs2, e2⟩ := hhd _ _ hI1
  refine zlV (ci := 10) (As := []) (rest := []) 0 hg.1.1.1.1.1 ⟨hx, hb, hml, hown, hts⟩ hth (cwV 0 hts gL_law_X6_thrown rfl rfl rfl (by decide +kernel) ⟨Nat.le_of_ble_eq_true rfl, Nat.le_of_ble_eq_true rfl⟩) hG hK hP hD hS (fun _ h => h) rfl e2 rfl hl.1 rfl (Nat.le_of_ble_eq_true rfl) dL_law_2703 ⟨hrc, hrs⟩ (fun m2 o3 H locs h3 hP hD hS => ?_)
  obtain ⟨em, rfl⟩ := h3
  rw [em] at hP hD
  have hP := va_P_swap hP
  have hD := va_D_swap hD
  refine lv_iload hx hb dL_law_2706 (lv_at hl 1 rfl) ?_
  refine lv_icmp_eq (tgt := 2713) hx hb dL_law_2708 (by decide) (fun c9 => ?_) (fun c9 => ?_)
  · skip
    refine lv_iload hx hb dL_law_2713 (lv_at hl 1 rfl) ?_
    refine lv_if_ne (tgt := 2730) hx hb dL_law_2715 (by decide) (fun c9 => ?_) (fun c9 => ?_)
    · skip
      refine lv_goto (tgt := 2834) hx hb dL_law_2730 (by decide) ?_
      exact kn w1 m1 H locs ls hI1 hP hD hS (lv_sub hl [2, 3, 4, 5, 6, 7] rfl)
    · skip
      obtain ⟨f, h47, hf⟩ := hko c9
      refine lv_aload_n hx hb dL_law_2718 rfl (lv_at hl 5 rfl) ?_
      refine lv_iconst (v := 0) hx hb dL_law_2719 (by decide) ?_
      refine z_top (y := nI 0) rfl ?_
      refine va_lald hx hb hK hP 47 3 (z_inl h47) rfl (vp_in_nI (n := 0) (by decide) (by decide)) dL_law_2720 ?_
      rw [show f (nI 0).toNatClampNeg = _ from hf]
      refine lv_iload hx hb dL_law_2721 (lv_at hl 0 rfl) ?_
      refine lv_i2l hx hb dL_law_2723 rfl ?_
      refine W.lcmp hx hb dL_law_2724 ?_
      refine z_top (y := 0) (lg_cmp_rf rfl) ?_
      refine lv_if_eq (tgt := 2730) hx hb dL_law_2725 (by decide) (fun c9 => ?_) (fun c9 => ?_)
      · skip
        refine lv_goto (tgt := 2834) hx hb dL_law_2730 (by decide) ?_
        exact kn w1 m1 H locs ls hI1 hP hD hS (lv_sub hl [2, 3, 4, 5, 6, 7] rfl)
      · exact absurd rfl c9
  · exact absurd rfl c9

set_option maxHeartbeats 4000000 in
set_option maxRecDepth 100000 in
/-- undo -/
theorem law_58 {G : zG} (hg : zGW G) {l : Launch} {D : va_G} {cy : Nat → ClassId} {I : va_W → va_W → Prop} {x0 x9 ow od b L : Nat} {xs : Nat → Int32} {p : Program} {e : Env} {s : State} {m : MethodId} {args : Array Value} {below : List Frame} {meth : Method} {c : Code} {H : Heap} {locs : List Loc} {cells slots : Nat} {Q : State → Prop} (hx : p.tables.exec = Jvm.exec) (hb : c.code = cL_law) (hml : c.maxLocals = 9) (hown : s.vm.findClass RL = some m.cls) (hts : ∀ w ∈ wsL_law, w.before args s = true) (hG : G (fun q => s.heap.size ≤ q) s) (hK : va_K D vwCl (zT cy) s) (hX : va_X b L xs s s.heap) (hbl : b < s.heap.size) {w mw : va_W} {i : Nat} (hi : i + 2 < L) (hL : L ≤ 1536) (hI : I w mw) (hhd : ∀ w m, I w m → zHd x0 x9 w m) (hP : va_P D vwCl (w ++ mw) H) (hD : va_D (fun q => s.heap.size ≤ q) (w ++ mw)) (hS : va_S (fun q => s.heap.size ≤ q) s.heap H locs) (ls : Array Slot) (hl : lv_has ls 9 [(0, .ref b), (1, .ref x0), (2, .ref x9), (3, .ref ow), (4, .ref od), (5, .int (nI i))]) (hrc : cells + 2 ≤ 603072) (hrs : slots + 96 ≤ 7202922) (harm : zArmS G D cy l I x9 yL_undo wsL_undo [.ref x0, .ref ow] yX6_undo wsX6_undo [.ref x9] (fun w' b => zOut ow cy w' b.toInt64) w mw) (kn : ∀ (w' m' : va_W) (H1 : Heap) (locs1 : List Loc) (ls1 : Array Slot), I w' m' → va_P D vwCl (w' ++ m') H1 → va_D (fun q => s.heap.size ≤ q) (w' ++ m') → va_S (fun q => s.heap.size ≤ q) s.heap H1 locs1 → lv_has ls1 9 [(0, .ref b), (1, .ref x0), (2, .ref x9), (3, .ref ow), (4, .ref od), (5, .int (nI i))] → W p l e room_1 s m args below meth c H1 locs1 (cells + 2) (slots + 96) Q (F0 m 2834 ls1 [])) : W p l e room_1 s m args below meth c H locs cells slots Q (F0 m 2733 ls []) := by
  refine lv_aload_n hx hb dL_law_2733 rfl (lv_at hl 1 rfl) ?_
  refine lv_aload_n hx hb dL_law_2734 rfl (lv_at hl 3 rfl) ?_
  obtain ⟨Φ, Ψ, hM1, hM2, hpure⟩ := harm
  refine zlS (As := [.ref x0, .ref ow]) (rest := []) (hh := [(0, 8, 11, 128)]) hg.1.1.1.1.1 ⟨hx, hb, hml, hown, hts⟩ hM1 (vx_cwSW 2 hts gL_law_L_undo rfl rfl rfl (by decide +kernel) ⟨Nat.le_of_ble_eq_true rfl, Nat.le_of_ble_eq_true rfl⟩) hG hK hP hD hS (fun _ h => h) rfl hl.1 rfl (Nat.le_of_ble_eq_true rfl) dL_law_2735 ⟨hrc, hrs⟩ (fun w1 o1 H locs h1 hP hD hS => ?_)
  obtain ⟨k, rfl, h1⟩ := h1
  have hP := va_P_swap hP
  have hD := va_D_swap hD
  refine lv_istore (lv' := [(6, .int k), (0, .ref b), (1, .ref x0), (2, .ref x9), (3, .ref ow), (4, .ref od), (5, .int (nI i))]) hx hb dL_law_2738 hl (by decide) rfl (fun ls hl => ?_)
  refine lv_aload_n hx hb dL_law_2740 rfl (lv_at hl 3 rfl) ?_
  obtain ⟨⟨fs0, e0⟩, fs9, e9⟩ := hhd _ _ hI
  refine zlV (ci := 10) (As := []) (rest := []) 0 hg.1.1.1.1.1 ⟨hx, hb, hml, hown, hts⟩ hM2 (cwV 0 hts gL_law_X6_undo rfl rfl rfl (by decide +kernel) ⟨Nat.le_of_ble_eq_true rfl, Nat.le_of_ble_eq_true rfl⟩) hG hK hP hD hS (fun _ h => h) rfl e9 rfl hl.1 rfl (Nat.le_of_ble_eq_true rfl) dL_law_2741 ⟨hrc, hrs⟩ (fun m1 o2 H locs h2 hP hD hS => ?_)
  obtain ⟨bb, rfl, h2⟩ := h2
  obtain ⟨hth, hko, hI1⟩ := hpure w1 k m1 bb h1 h2
  refine lv_istore (lv' := [(7, .int bb), (6, .int k), (0, .ref b), (1, .ref x0), (2, .ref x9), (3, .ref ow), (4, .ref od), (5, .int (nI i))]) hx hb dL_law_2744 hl (by decide) rfl (fun ls hl => ?_)
  refine lv_aload_n hx hb dL_law_2746 rfl (lv_at hl 4 rfl) ?_
  obtain ⟨⟨fs1, e1⟩, fs2, e2⟩ := hhd _ _ hI1
  refine zlV (ci := 10) (As := []) (rest := []) 0 hg.1.1.1.1.1 ⟨hx, hb, hml, hown, hts⟩ hth (cwV 0 hts gL_law_X6_thrown rfl rfl rfl (by decide +kernel) ⟨Nat.le_of_ble_eq_true rfl, Nat.le_of_ble_eq_true rfl⟩) hG hK hP hD hS (fun _ h => h) rfl e2 rfl hl.1 rfl (Nat.le_of_ble_eq_true rfl) dL_law_2747 ⟨hrc, hrs⟩ (fun m2 o3 H locs h3 hP hD hS => ?_)
  obtain ⟨em, rfl⟩ := h3
  rw [em] at hP hD
  have hP := va_P_swap hP
  have hD := va_D_swap hD
  refine lv_iload hx hb dL_law_2750 (lv_at hl 1 rfl) ?_
  refine lv_icmp_eq (tgt := 2757) hx hb dL_law_2752 (by decide) (fun c9 => ?_) (fun c9 => ?_)
  · skip
    refine lv_iload hx hb dL_law_2757 (lv_at hl 1 rfl) ?_
    refine lv_if_ne (tgt := 2774) hx hb dL_law_2759 (by decide) (fun c9 => ?_) (fun c9 => ?_)
    · skip
      refine lv_goto (tgt := 2834) hx hb dL_law_2774 (by decide) ?_
      exact kn w1 m1 H locs ls hI1 hP hD hS (lv_sub hl [2, 3, 4, 5, 6, 7] rfl)
    · skip
      obtain ⟨f, h47, hf⟩ := hko c9
      refine lv_aload_n hx hb dL_law_2762 rfl (lv_at hl 5 rfl) ?_
      refine lv_iconst (v := 0) hx hb dL_law_2763 (by decide) ?_
      refine z_top (y := nI 0) rfl ?_
      refine va_lald hx hb hK hP 47 3 (z_inl h47) rfl (vp_in_nI (n := 0) (by decide) (by decide)) dL_law_2764 ?_
      rw [show f (nI 0).toNatClampNeg = _ from hf]
      refine lv_iload hx hb dL_law_2765 (lv_at hl 0 rfl) ?_
      refine lv_i2l hx hb dL_law_2767 rfl ?_
      refine W.lcmp hx hb dL_law_2768 ?_
      refine z_top (y := 0) (lg_cmp_rf rfl) ?_
      refine lv_if_eq (tgt := 2774) hx hb dL_law_2769 (by decide) (fun c9 => ?_) (fun c9 => ?_)
      · skip
        refine lv_goto (tgt := 2834) hx hb dL_law_2774 (by decide) ?_
        exact kn w1 m1 H locs ls hI1 hP hD hS (lv_sub hl [2, 3, 4, 5, 6, 7] rfl)
      · exact absurd rfl c9
  · exact absurd rfl c9

set_option maxHeartbeats 4000000 in
set_option maxRecDepth 100000 in
/-- saveSnapshot -/
theorem law_59 {G : zG} (hg : zGW G) {l : Launch} {D : va_G} {cy : Nat → ClassId} {I : va_W → va_W → Prop} {x0 x9 ow od b L : Nat} {xs : Nat → Int32} {p : Program} {e : Env} {s : State} {m : MethodId} {args : Array Value} {below : List Frame} {meth : Method} {c : Code} {H : Heap} {locs : List Loc} {cells slots : Nat} {Q : State → Prop} (hx : p.tables.exec = Jvm.exec) (hb : c.code = cL_law) (hml : c.maxLocals = 9) (hown : s.vm.findClass RL = some m.cls) (hts : ∀ w ∈ wsL_law, w.before args s = true) (hG : G (fun q => s.heap.size ≤ q) s) (hK : va_K D vwCl (zT cy) s) (hX : va_X b L xs s s.heap) (hbl : b < s.heap.size) {w mw : va_W} {i : Nat} (hi : i + 2 < L) (hL : L ≤ 1536) (hI : I w mw) (hhd : ∀ w m, I w m → zHd x0 x9 w m) (hP : va_P D vwCl (w ++ mw) H) (hD : va_D (fun q => s.heap.size ≤ q) (w ++ mw)) (hS : va_S (fun q => s.heap.size ≤ q) s.heap H locs) (ls : Array Slot) (hl : lv_has ls 9 [(0, .ref b), (1, .ref x0), (2, .ref x9), (3, .ref ow), (4, .ref od), (5, .int (nI i))]) (hrc : cells + 2 ≤ 603072) (hrs : slots + 96 ≤ 7202922) (harm : zArmD G D cy l I yX5_saveSnapshot wsX5_saveSnapshot [.ref x0] yX6_saveSnapshot wsX6_saveSnapshot [.ref x9] w mw) (kn : ∀ (w' m' : va_W) (H1 : Heap) (locs1 : List Loc) (ls1 : Array Slot), I w' m' → va_P D vwCl (w' ++ m') H1 → va_D (fun q => s.heap.size ≤ q) (w' ++ m') → va_S (fun q => s.heap.size ≤ q) s.heap H1 locs1 → lv_has ls1 9 [(0, .ref b), (1, .ref x0), (2, .ref x9), (3, .ref ow), (4, .ref od), (5, .int (nI i))] → W p l e room_1 s m args below meth c H1 locs1 (cells + 2) (slots + 96) Q (F0 m 2834 ls1 [])) : W p l e room_1 s m args below meth c H locs cells slots Q (F0 m 2777 ls []) := by
  refine lv_aload_n hx hb dL_law_2777 rfl (lv_at hl 1 rfl) ?_
  obtain ⟨Φ, Ψ, hM1, hM2, hpure⟩ := harm
  obtain ⟨⟨fs0, e0⟩, fs9, e9⟩ := hhd _ _ hI
  refine zlV (ci := 9) (As := []) (rest := []) 0 hg.1.1.1.1.1 ⟨hx, hb, hml, hown, hts⟩ hM1 (cwV 0 hts gL_law_X5_saveSnapshot rfl rfl rfl (by decide +kernel) ⟨Nat.le_of_ble_eq_true rfl, Nat.le_of_ble_eq_true rfl⟩) hG hK hP hD hS (fun _ h => h) rfl e0 rfl hl.1 rfl (Nat.le_of_ble_eq_true rfl) dL_law_2778 ⟨hrc, hrs⟩ (fun w1 o1 H locs h1 hP hD hS => ?_)
  obtain ⟨k, rfl, h1⟩ := h1
  have hP := va_P_swap hP
  have hD := va_D_swap hD
  refine lv_aload_n hx hb dL_law_2781 rfl (lv_at hl 2 rfl) ?_
  refine zlV (ci := 10) (As := []) (rest := [.int k]) 0 hg.1.1.1.1.1 ⟨hx, hb, hml, hown, hts⟩ hM2 (cwV 0 hts gL_law_X6_saveSnapshot rfl rfl rfl (by decide +kernel) ⟨Nat.le_of_ble_eq_true rfl, Nat.le_of_ble_eq_true rfl⟩) hG hK hP hD hS (fun _ h => h) rfl e9 rfl hl.1 rfl (Nat.le_of_ble_eq_true rfl) dL_law_2782 ⟨hrc, hrs⟩ (fun m1 o2 H locs h2 hP hD hS => ?_)
  obtain ⟨bb, rfl, h2⟩ := h2
  obtain ⟨hkb, hI1⟩ := hpure w1 k m1 bb h1 h2
  have hP := va_P_swap hP
  have hD := va_D_swap hD
  refine lv_icmp_eq (tgt := 2834) hx hb dL_law_2785 (by decide) (fun c9 => ?_) (fun c9 => ?_)
  · skip
    exact kn w1 m1 H locs ls hI1 hP hD hS (lv_sub hl [0, 1, 2, 3, 4, 5] rfl)
  · exact absurd hkb c9

set_option maxHeartbeats 4000000 in
set_option maxRecDepth 100000 in
/-- restoreSnapshot -/
theorem law_60 {G : zG} (hg : zGW G) {l : Launch} {D : va_G} {cy : Nat → ClassId} {I : va_W → va_W → Prop} {x0 x9 ow od b L : Nat} {xs : Nat → Int32} {p : Program} {e : Env} {s : State} {m : MethodId} {args : Array Value} {below : List Frame} {meth : Method} {c : Code} {H : Heap} {locs : List Loc} {cells slots : Nat} {Q : State → Prop} (hx : p.tables.exec = Jvm.exec) (hb : c.code = cL_law) (hml : c.maxLocals = 9) (hown : s.vm.findClass RL = some m.cls) (hts : ∀ w ∈ wsL_law, w.before args s = true) (hG : G (fun q => s.heap.size ≤ q) s) (hK : va_K D vwCl (zT cy) s) (hX : va_X b L xs s s.heap) (hbl : b < s.heap.size) {w mw : va_W} {i : Nat} (hi : i + 2 < L) (hL : L ≤ 1536) (hI : I w mw) (hhd : ∀ w m, I w m → zHd x0 x9 w m) (hP : va_P D vwCl (w ++ mw) H) (hD : va_D (fun q => s.heap.size ≤ q) (w ++ mw)) (hS : va_S (fun q => s.heap.size ≤ q) s.heap H locs) (ls : Array Slot) (hl : lv_has ls 9 [(0, .ref b), (1, .ref x0), (2, .ref x9), (3, .ref ow), (4, .ref od), (5, .int (nI i))]) (hrc : cells + 2 ≤ 603072) (hrs : slots + 96 ≤ 7202922) (harm : zArmS G D cy l I x9 yL_restoreSnapshot wsL_restoreSnapshot [.ref x0, .ref ow] yX6_restoreSnapshot wsX6_restoreSnapshot [.ref x9] (fun w' b => zOut ow cy w' b.toInt64) w mw) (kn : ∀ (w' m' : va_W) (H1 : Heap) (locs1 : List Loc) (ls1 : Array Slot), I w' m' → va_P D vwCl (w' ++ m') H1 → va_D (fun q => s.heap.size ≤ q) (w' ++ m') → va_S (fun q => s.heap.size ≤ q) s.heap H1 locs1 → lv_has ls1 9 [(0, .ref b), (1, .ref x0), (2, .ref x9), (3, .ref ow), (4, .ref od), (5, .int (nI i))] → W p l e room_1 s m args below meth c H1 locs1 (cells + 2) (slots + 96) Q (F0 m 2834 ls1 [])) : W p l e room_1 s m args below meth c H locs cells slots Q (F0 m 2790 ls []) := by
  refine lv_aload_n hx hb dL_law_2790 rfl (lv_at hl 1 rfl) ?_
  refine lv_aload_n hx hb dL_law_2791 rfl (lv_at hl 3 rfl) ?_
  obtain ⟨Φ, Ψ, hM1, hM2, hpure⟩ := harm
  refine zlS (As := [.ref x0, .ref ow]) (rest := []) (hh := [(0, 8, 11, 128)]) hg.1.1.1.1.1 ⟨hx, hb, hml, hown, hts⟩ hM1 (vx_cwSW 2 hts gL_law_L_restoreSnapshot rfl rfl rfl (by decide +kernel) ⟨Nat.le_of_ble_eq_true rfl, Nat.le_of_ble_eq_true rfl⟩) hG hK hP hD hS (fun _ h => h) rfl hl.1 rfl (Nat.le_of_ble_eq_true rfl) dL_law_2792 ⟨hrc, hrs⟩ (fun w1 o1 H locs h1 hP hD hS => ?_)
  obtain ⟨k, rfl, h1⟩ := h1
  have hP := va_P_swap hP
  have hD := va_D_swap hD
  refine lv_istore (lv' := [(6, .int k), (0, .ref b), (1, .ref x0), (2, .ref x9), (3, .ref ow), (4, .ref od), (5, .int (nI i))]) hx hb dL_law_2795 hl (by decide) rfl (fun ls hl => ?_)
  refine lv_aload_n hx hb dL_law_2797 rfl (lv_at hl 3 rfl) ?_
  obtain ⟨⟨fs0, e0⟩, fs9, e9⟩ := hhd _ _ hI
  refine zlV (ci := 10) (As := []) (rest := []) 0 hg.1.1.1.1.1 ⟨hx, hb, hml, hown, hts⟩ hM2 (cwV 0 hts gL_law_X6_restoreSnapshot rfl rfl rfl (by decide +kernel) ⟨Nat.le_of_ble_eq_true rfl, Nat.le_of_ble_eq_true rfl⟩) hG hK hP hD hS (fun _ h => h) rfl e9 rfl hl.1 rfl (Nat.le_of_ble_eq_true rfl) dL_law_2798 ⟨hrc, hrs⟩ (fun m1 o2 H locs h2 hP hD hS => ?_)
  obtain ⟨bb, rfl, h2⟩ := h2
  obtain ⟨hth, hko, hI1⟩ := hpure w1 k m1 bb h1 h2
  refine lv_istore (lv' := [(7, .int bb), (6, .int k), (0, .ref b), (1, .ref x0), (2, .ref x9), (3, .ref ow), (4, .ref od), (5, .int (nI i))]) hx hb dL_law_2801 hl (by decide) rfl (fun ls hl => ?_)
  refine lv_aload_n hx hb dL_law_2803 rfl (lv_at hl 4 rfl) ?_
  obtain ⟨⟨fs1, e1⟩, fs2, e2⟩ := hhd _ _ hI1
  refine zlV (ci := 10) (As := []) (rest := []) 0 hg.1.1.1.1.1 ⟨hx, hb, hml, hown, hts⟩ hth (cwV 0 hts gL_law_X6_thrown rfl rfl rfl (by decide +kernel) ⟨Nat.le_of_ble_eq_true rfl, Nat.le_of_ble_eq_true rfl⟩) hG hK hP hD hS (fun _ h => h) rfl e2 rfl hl.1 rfl (Nat.le_of_ble_eq_true rfl) dL_law_2804 ⟨hrc, hrs⟩ (fun m2 o3 H locs h3 hP hD hS => ?_)
  obtain ⟨em, rfl⟩ := h3
  rw [em] at hP hD
  have hP := va_P_swap hP
  have hD := va_D_swap hD
  refine lv_iload hx hb dL_law_2807 (lv_at hl 1 rfl) ?_
  refine lv_icmp_eq (tgt := 2814) hx hb dL_law_2809 (by decide) (fun c9 => ?_) (fun c9 => ?_)
  · skip
    refine lv_iload hx hb dL_law_2814 (lv_at hl 1 rfl) ?_
    refine lv_if_ne (tgt := 2831) hx hb dL_law_2816 (by decide) (fun c9 => ?_) (fun c9 => ?_)
    · skip
      refine lv_goto (tgt := 2834) hx hb dL_law_2831 (by decide) ?_
      exact kn w1 m1 H locs ls hI1 hP hD hS (lv_sub hl [2, 3, 4, 5, 6, 7] rfl)
    · skip
      obtain ⟨f, h47, hf⟩ := hko c9
      refine lv_aload_n hx hb dL_law_2819 rfl (lv_at hl 5 rfl) ?_
      refine lv_iconst (v := 0) hx hb dL_law_2820 (by decide) ?_
      refine z_top (y := nI 0) rfl ?_
      refine va_lald hx hb hK hP 47 3 (z_inl h47) rfl (vp_in_nI (n := 0) (by decide) (by decide)) dL_law_2821 ?_
      rw [show f (nI 0).toNatClampNeg = _ from hf]
      refine lv_iload hx hb dL_law_2822 (lv_at hl 0 rfl) ?_
      refine lv_i2l hx hb dL_law_2824 rfl ?_
      refine W.lcmp hx hb dL_law_2825 ?_
      refine z_top (y := 0) (lg_cmp_rf rfl) ?_
      refine lv_if_eq (tgt := 2831) hx hb dL_law_2826 (by decide) (fun c9 => ?_) (fun c9 => ?_)
      · skip
        refine lv_goto (tgt := 2834) hx hb dL_law_2831 (by decide) ?_
        exact kn w1 m1 H locs ls hI1 hP hD hS (lv_sub hl [2, 3, 4, 5, 6, 7] rfl)
      · exact absurd rfl c9
  · exact absurd rfl c9
