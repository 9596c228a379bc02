/-! the law's loop: what each case of its switch asks of the worlds, and the walk out of that -/
section ZLOOP
/-- what the calls of one step say, by the switch's case -/
structure zArms (G : zG) (D : va_G) (cy : Nat → ClassId) (l : Launch) (I : va_W → va_W → Prop) (x0 x9 ow od : Nat) (xs : Nat → Int32) (i : Nat) (w mw : va_W) : Prop where
  a0 : zArmS G D cy l I x9 yL_castOn wsL_castOn [.ref x0, .int (xs (i + 1)), .int (xs (i + 2)), .ref ow] yX6_castOn wsX6_castOn [.ref x9, .int (xs (i + 1)), .int (xs (i + 2))] (fun w' b => zOut ow cy w' b.toInt64) w mw
  a1 : zArmS G D cy l I x9 yL_castOff wsL_castOff [.ref x0, .ref ow] yX6_castOff wsX6_castOff [.ref x9] (fun w' b => zOut ow cy w' b.toInt64) w mw
  a2 : zArmS G D cy l I x9 yL_hold wsL_hold [.ref x0, .int (xs (i + 1)), .ref ow] yX6_hold wsX6_hold [.ref x9, .int (xs (i + 1))] (fun w' b => zOut ow cy w' b.toInt64) w mw
  a3 : zArmS G D cy l I x9 yL_release wsL_release [.ref x0, .int (xs (i + 1)), .ref ow] yX6_release wsX6_release [.ref x9, .int (xs (i + 1))] (fun w' b => zOut ow cy w' b.toInt64) w mw
  a4 : zArmS G D cy l I x9 yL_dropStitch wsL_dropStitch [.ref x0, .int (xs (i + 1)), .ref ow] yX6_dropStitch wsX6_dropStitch [.ref x9, .int (xs (i + 1))] (fun w' b => zOut ow cy w' b.toInt64) w mw
  a5 : zArmS G D cy l I x9 yL_pickUp wsL_pickUp [.ref x0, .int (xs (i + 1)), .ref ow] yX6_pickUp wsX6_pickUp [.ref x9, .int (xs (i + 1))] (fun w' b => zOut ow cy w' b.toInt64) w mw
  a6 : ∀ t : Int32, (t = 0 ∨ t = 1) → zArmS G D cy l I x9 yL_transfer wsL_transfer [.ref x0, .int (xs (i + 1)), .int t, .ref ow] yX6_transfer wsX6_transfer [.ref x9, .int (xs (i + 1)), .int t] (fun w' b => zOut ow cy w' b.toInt64) w mw
  a7 : zArmS G D cy l I x9 yL_isInWork wsL_isInWork [.ref x0, .int (xs (i + 1)), .ref ow] yX6_isInWork wsX6_isInWork [.ref x9, .int (xs (i + 1))] (fun w' b => zOut ow cy w' (if b = 0 then 0 else 1)) w mw
  a8 : zArmS G D cy l I x9 yL_isOnHold wsL_isOnHold [.ref x0, .int (xs (i + 1)), .ref ow] yX6_isOnHold wsX6_isOnHold [.ref x9, .int (xs (i + 1))] (fun w' b => zOut ow cy w' (if b = 0 then 0 else 1)) w mw
  a9 : zArmS G D cy l I x9 yL_loopsOn wsL_loopsOn [.ref x0, .int (xs (i + 1)), .ref ow] yX6_loopsOn wsX6_loopsOn [.ref x9, .int (xs (i + 1))] (fun w' b => zOut ow cy w' b.toInt64) w mw
  a10 : zArmS G D cy l I x9 yL_ageOn wsL_ageOn [.ref x0, .int (xs (i + 1)), .ref ow] yX6_ageOn wsX6_ageOn [.ref x9, .int (xs (i + 1))] (fun w' b => zOut ow cy w' b.toInt64) w mw
  a11 : zArmD G D cy l I yX5_needlesInWork wsX5_needlesInWork [.ref x0] yX6_needlesInWork wsX6_needlesInWork [.ref x9] w mw
  a12 : zArmD G D cy l I yX5_needlesOnHold wsX5_needlesOnHold [.ref x0] yX6_needlesOnHold wsX6_needlesOnHold [.ref x9] w mw
  a13 : zArmD G D cy l I yX5_loopCount wsX5_loopCount [.ref x0] yX6_loopCount wsX6_loopCount [.ref x9] w mw
  a14 : zArmD G D cy l I yX5_longestRun wsX5_longestRun [.ref x0] yX6_longestRun wsX6_longestRun [.ref x9] w mw
  a15 : zArmD G D cy l I yX5_longestRunByMask wsX5_longestRunByMask [.ref x0] yX6_longestRunByMask wsX6_longestRunByMask [.ref x9] w mw
  a16 : zArmS G D cy l I x9 yL_nextDropped wsL_nextDropped [.ref x0, .int (xs (i + 1)), .ref ow] yX6_nextDropped wsX6_nextDropped [.ref x9, .int (xs (i + 1))] (fun w' b => zOut ow cy w' b.toInt64) w mw
  a17 : zArmS G D cy l I x9 yL_addYarn wsL_addYarn [.ref x0, .int (xs (i + 1)), .int (xs (i + 2)), .ref ow] yX6_addYarn wsX6_addYarn [.ref x9, .int (xs (i + 1)), .int (xs (i + 2))] (fun w' b => zOut ow cy w' b.toInt64) w mw
  a18 : zArmS G D cy l I x9 yL_selectFeeder wsL_selectFeeder [.ref x0, .int (xs (i + 1)), .ref ow] yX6_selectFeeder wsX6_selectFeeder [.ref x9, .int (xs (i + 1))] (fun w' b => zOut ow cy w' b.toInt64) w mw
  a19 : zArmS G D cy l I x9 yL_setTension wsL_setTension [.ref x0, .int (xs (i + 1)), .ref ow] yX6_setTension wsX6_setTension [.ref x9, .int (xs (i + 1))] (fun w' b => zOut ow cy w' b.toInt64) w mw
  a20 : zArmS G D cy l I x9 yL_addPatternRow wsL_addPatternRow [.ref x0, .int (xs (i + 1)), .ref ow] yX6_addPatternRow wsX6_addPatternRow [.ref x9, .int (xs (i + 1))] (fun w' b => zOut ow cy w' b.toInt64) w mw
  a21 : zArmD G D cy l I yX5_clearPattern wsX5_clearPattern [.ref x0] yX6_clearPattern wsX6_clearPattern [.ref x9] w mw
  a22 : zArmS G D cy l I x9 yL_yarnIn wsL_yarnIn [.ref x0, .int (xs (i + 1)), .ref ow] yX6_yarnIn wsX6_yarnIn [.ref x9, .int (xs (i + 1))] (fun w' b => zOut ow cy w' b.toInt64) w mw
  a23 : zArmD G D cy l I yX5_activeFeeder wsX5_activeFeeder [.ref x0] yX6_activeFeeder wsX6_activeFeeder [.ref x9] w mw
  a24 : zArmD G D cy l I yX5_tension wsX5_tension [.ref x0] yX6_tension wsX6_tension [.ref x9] w mw
  a25 : zArmD G D cy l I yX5_patternRows wsX5_patternRows [.ref x0] yX6_patternRows wsX6_patternRows [.ref x9] w mw
  a26 : zArmS G D cy l I x9 yL_isKnit wsL_isKnit [.ref x0, .int (xs (i + 1)), .int (xs (i + 2)), .ref ow] yX6_isKnit wsX6_isKnit [.ref x9, .int (xs (i + 1)), .int (xs (i + 2))] (fun w' b => zOut ow cy w' (if b = 0 then 0 else 1)) w mw
  a27 : zArmS G D cy l I x9 yL_knit wsL_knit [.ref x0, .int (xs (i + 1)), .ref ow] yX6_knit wsX6_knit [.ref x9, .int (xs (i + 1))] (fun w' b => zOut ow cy w' b.toInt64) w mw
  a28 : zArmS G D cy l I x9 yL_willKnit wsL_willKnit [.ref x0, .int (xs (i + 1)), .ref ow] yX6_willKnit wsX6_willKnit [.ref x9, .int (xs (i + 1))] (fun w' b => zOut ow cy w' (if b = 0 then 0 else 1)) w mw
  a29 : zArmD G D cy l I yX5_nextWidth wsX5_nextWidth [.ref x0] yX6_nextWidth wsX6_nextWidth [.ref x9] w mw
  a30 : zArmD G D cy l I yX5_nextWidthByMask wsX5_nextWidthByMask [.ref x0] yX6_nextWidthByMask wsX6_nextWidthByMask [.ref x9] w mw
  a31 : zArmS G D cy l I x9 yL_stitchesIn wsL_stitchesIn [.ref x0, .int (xs (i + 1)), .ref ow] yX6_stitchesIn wsX6_stitchesIn [.ref x9, .int (xs (i + 1))] (fun w' b => zOut ow cy w' b.toInt64) w mw
  a32 : zArmS G D cy l I x9 yL_dropsIn wsL_dropsIn [.ref x0, .int (xs (i + 1)), .ref ow] yX6_dropsIn wsX6_dropsIn [.ref x9, .int (xs (i + 1))] (fun w' b => zOut ow cy w' b.toInt64) w mw
  a33 : zArmD G D cy l I yX5_coursesPossible wsX5_coursesPossible [.ref x0] yX6_coursesPossible wsX6_coursesPossible [.ref x9] w mw
  a34 : zArmD G D cy l I yX5_courseCount wsX5_courseCount [.ref x0] yX6_courseCount wsX6_courseCount [.ref x9] w mw
  a35 : zArmS G D cy l I x9 yL_widthOf wsL_widthOf [.ref x0, .int (xs (i + 1)), .ref ow] yX6_widthOf wsX6_widthOf [.ref x9, .int (xs (i + 1))] (fun w' b => zOut ow cy w' b.toInt64) w mw
  a36 : zArmS G D cy l I x9 yL_yarnOf wsL_yarnOf [.ref x0, .int (xs (i + 1)), .ref ow] yX6_yarnOf wsX6_yarnOf [.ref x9, .int (xs (i + 1))] (fun w' b => zOut ow cy w' b.toInt64) w mw
  a37 : zArmS G D cy l I x9 yL_feederOf wsL_feederOf [.ref x0, .int (xs (i + 1)), .ref ow] yX6_feederOf wsX6_feederOf [.ref x9, .int (xs (i + 1))] (fun w' b => zOut ow cy w' b.toInt64) w mw
  a38 : zArmS G D cy l I x9 yL_dropsOf wsL_dropsOf [.ref x0, .int (xs (i + 1)), .ref ow] yX6_dropsOf wsX6_dropsOf [.ref x9, .int (xs (i + 1))] (fun w' b => zOut ow cy w' b.toInt64) w mw
  a39 : zArmS G D cy l I x9 yL_courseByWidth wsL_courseByWidth [.ref x0, .int (xs (i + 1)), .ref ow] yX6_courseByWidth wsX6_courseByWidth [.ref x9, .int (xs (i + 1))] (fun w' b => zOut ow cy w' b.toInt64) w mw
  a40 : zArmS G D cy l I x9 yL_feederByYarn wsL_feederByYarn [.ref x0, .int (xs (i + 1)), .ref ow] yX6_feederByYarn wsX6_feederByYarn [.ref x9, .int (xs (i + 1))] (fun w' b => zOut ow cy w' b.toInt64) w mw
  a41 : zArmD G D cy l I yX5_stitchCount wsX5_stitchCount [.ref x0] yX6_stitchCount wsX6_stitchCount [.ref x9] w mw
  a42 : zArmD G D cy l I yX5_finishedShawls wsX5_finishedShawls [.ref x0] yX6_finishedShawls wsX6_finishedShawls [.ref x9] w mw
  a43 : zArmD G D cy l I yX5_yarnAdded wsX5_yarnAdded [.ref x0] yX6_yarnAdded wsX6_yarnAdded [.ref x9] w mw
  a44 : zArmD G D cy l I yX5_yarnUsed wsX5_yarnUsed [.ref x0] yX6_yarnUsed wsX6_yarnUsed [.ref x9] w mw
  a45 : zArmD G D cy l I yX5_droppedLoops wsX5_droppedLoops [.ref x0] yX6_droppedLoops wsX6_droppedLoops [.ref x9] w mw
  a46 : zArmDb G D cy l I x9 yL_meanWidth wsL_meanWidth [.ref x0, .ref od] yX6_meanWidth wsX6_meanWidth [.ref x9] (fun w' b => zOutD od cy w' (fun x => x = b ∧ Op.cmpValue (FP.dcmp b b) .l = 0)) w mw
  a47 : zArmFl G D cy l I x9 yL_droppedShare wsL_droppedShare [.ref x0, .ref od] yX6_droppedShare wsX6_droppedShare [.ref x9] (fun w' b => zOutD od cy w' (fun x => vf_n64 (FP.f2d b) ∧ x = FP.f2d b ∧ Op.cmpValue (FP.dcmp (FP.f2d b) (FP.f2d b)) .l = 0)) w mw
  a48 : zArmD G D cy l I yX5_isConsistent wsX5_isConsistent [.ref x0] yX6_isConsistent wsX6_isConsistent [.ref x9] w mw
  a49 : zArmD G D cy l I yX5_writeBed wsX5_writeBed [.ref x0] yX6_writeBed wsX6_writeBed [.ref x9] w mw
  a50 : zArmS G D cy l I x9 yL_writeCourse wsL_writeCourse [.ref x0, .int (xs (i + 1)), .ref ow] yX6_writeCourse wsX6_writeCourse [.ref x9, .int (xs (i + 1))] (fun w' b => zOut ow cy w' b.toInt64) w mw
  a51 : zArmS G D cy l I x9 yL_outputAt wsL_outputAt [.ref x0, .int (xs (i + 1)), .ref ow] yX6_outputAt wsX6_outputAt [.ref x9, .int (xs (i + 1))] (fun w' b => zOut ow cy w' b.toInt64) w mw
  a52 : zArmS G D cy l I x9 yL_appendInput wsL_appendInput [.ref x0, .int ((xs (i + 1)).toUInt32 % 65536).toInt32, .ref ow] yX6_appendInput wsX6_appendInput [.ref x9, .int ((xs (i + 1)).toUInt32 % 65536).toInt32] (fun w' b => zOut ow cy w' b.toInt64) w mw
  a53 : zArmS G D cy l I x9 yL_execute wsL_execute [.ref x0, .ref ow] yX6_execute wsX6_execute [.ref x9] (fun w' b => zOut ow cy w' b.toInt64) w mw
  a54 : zArmS G D cy l I x9 yL_syntaxErrorOffset wsL_syntaxErrorOffset [.ref x0, .ref ow] yX6_syntaxErrorOffset wsX6_syntaxErrorOffset [.ref x9] (fun w' b => zOut ow cy w' b.toInt64) w mw
  a55 : zArmS G D cy l I x9 yL_rejectionReason wsL_rejectionReason [.ref x0, .ref ow] yX6_rejectionReason wsX6_rejectionReason [.ref x9] (fun w' b => zOut ow cy w' b.toInt64) w mw
  a56 : zArmS G D cy l I x9 yL_rejectionDetail wsL_rejectionDetail [.ref x0, .ref ow] yX6_rejectionDetail wsX6_rejectionDetail [.ref x9] (fun w' b => zOut ow cy w' b.toInt64) w mw
  a57 : zArmS G D cy l I x9 yL_causeReason wsL_causeReason [.ref x0, .ref ow] yX6_causeReason wsX6_causeReason [.ref x9] (fun w' b => zOut ow cy w' b.toInt64) w mw
  a58 : zArmS G D cy l I x9 yL_undo wsL_undo [.ref x0, .ref ow] yX6_undo wsX6_undo [.ref x9] (fun w' b => zOut ow cy w' b.toInt64) w mw
  a59 : zArmD G D cy l I yX5_saveSnapshot wsX5_saveSnapshot [.ref x0] yX6_saveSnapshot wsX6_saveSnapshot [.ref x9] w mw
  a60 : zArmS G D cy l I x9 yL_restoreSnapshot wsL_restoreSnapshot [.ref x0, .ref ow] yX6_restoreSnapshot wsX6_restoreSnapshot [.ref x9] (fun w' b => zOut ow cy w' b.toInt64) w mw
theorem zi_63 (x : Int32) : ∃ k : Nat, k < 64 ∧ x &&& 63 = nI k := by
  refine ⟨(x.toUInt32 &&& 63).toNat, ?_, ?_⟩
  · rw [UInt32.toNat_and]; exact Nat.lt_succ_of_le Nat.and_le_right
  · apply Int32.toBitVec_inj.mp
    have h : (nI (x.toUInt32 &&& 63).toNat).toBitVec = BitVec.ofNat 32 (x.toUInt32 &&& 63).toNat := rfl
    rw [h]
    show x.toBitVec &&& 63#32 = BitVec.ofNat 32 (x.toBitVec &&& 63#32).toNat
    simp
theorem zi_gt {i L : Nat} (hi : i ≤ L) (hL : L ≤ 1536) : (Int32.ofNat L - 3 < nI i) ↔ L < i + 3 := by
  have h3 : (Int32.ofNat L - 3).toInt = (L : Int) - 3 := by
    rw [Int32.toInt_sub, show (Int32.ofNat L).toInt = (L : Int) from nI_toInt (n := L) (by omega), show (3 : Int32).toInt = 3 from rfl]
    exact Int.bmod_eq_of_le (by omega) (by omega)
  rw [Int32.lt_iff_toInt_lt, h3, nI_toInt (by omega)]; omega
set_option maxHeartbeats 8000000 in
set_option maxRecDepth 100000 in
theorem law_loop {G : zG} (hg : zGW G) {l : Launch} {D : va_G} {cy : Nat → ClassId} {I : va_W → va_W → Prop} {x0 x9 ow od b L : Nat} {xs : Nat → Int32} {p : Program} {e : Env} {s : State} {m : MethodId} {args : Array Value} {below : List Frame} {meth : Method} {c : Code} {Q : State → Prop} (hx : p.tables.exec = Jvm.exec) (hb : c.code = cL_law) (hml : c.maxLocals = 9) (hown : s.vm.findClass RL = some m.cls) (hts : ∀ w ∈ wsL_law, w.before args s = true) (hG : G (fun q => s.heap.size ≤ q) s) (hK : va_K D vwCl (zT cy) s) (hX : va_X b L xs s s.heap) (hbl : b < s.heap.size) (hL : L ≤ 1536) (hhd : ∀ w m, I w m → zHd x0 x9 w m)
    (harm : ∀ (w mw : va_W) (i : Nat), i + 2 < L → I w mw → zArms G D cy l I x0 x9 ow od xs i w mw)
    (kend : ∀ (H : Heap) (locs : List Loc) (ls : Array Slot), va_S (fun q => s.heap.size ≤ q) s.heap H locs → W p l e room_1 s m args below meth c H locs 603072 7202922 Q (F0 m 2841 ls [.int 1])) :
    ∀ (n i : Nat) (w mw : va_W) (H : Heap) (locs : List Loc) (cells slots : Nat) (ls : Array Slot), i ≤ L → L ≤ i + 3 * n + 2 → I w mw → va_P D vwCl (w ++ mw) H → va_D (fun q => s.heap.size ≤ q) (w ++ mw) → va_S (fun q => s.heap.size ≤ q) s.heap H locs → cells + 2 * n ≤ 603072 → slots + 96 * n ≤ 7202922 → lv_has ls 9 [(0, .ref b), (1, .ref x0), (2, .ref x9), (3, .ref ow), (4, .ref od), (5, .int (nI i))] → W p l e room_1 s m args below meth c H locs cells slots Q (F0 m 28 ls []) := by
  have hbA : ¬ (fun q : Nat => s.heap.size ≤ q) b := Nat.not_le.mpr hbl
  intro n
  induction n with
  | zero =>
    intro i w mw H locs cells slots ls hi hn hI hP hD hS hc hs hl
    refine lv_iload hx hb dL_law_28 (lv_at hl 5 rfl) ?_
    refine lv_aload_n hx hb dL_law_30 rfl (lv_at hl 0 rfl) ?_
    refine va_slen hx hb hX hbl hbA hS dL_law_31 ?_
    refine lv_iconst (v := 3) hx hb dL_law_32 (by decide) ?_
    refine lv_isub hx hb dL_law_33 ?_
    refine lv_icmp_gt (tgt := 2840) hx hb dL_law_34 (by decide) (fun c9 => ?_) (fun c9 => absurd ((zi_gt hi hL).mpr (by omega)) c9)
    refine lv_iconst (v := 1) hx hb dL_law_2840 (by decide) ?_
    refine W.widen (k := 603072) (n := 7202922) (by omega) (by omega) ?_
    exact kend H locs ls hS
  | succ n ih =>
    intro i w mw H locs cells slots ls hi hn hI hP hD hS hc hs hl
    refine lv_iload hx hb dL_law_28 (lv_at hl 5 rfl) ?_
    refine lv_aload_n hx hb dL_law_30 rfl (lv_at hl 0 rfl) ?_
    refine va_slen hx hb hX hbl hbA hS dL_law_31 ?_
    refine lv_iconst (v := 3) hx hb dL_law_32 (by decide) ?_
    refine lv_isub hx hb dL_law_33 ?_
    refine lv_icmp_gt (tgt := 2840) hx hb dL_law_34 (by decide) (fun c9 => ?_) (fun c9 => ?_)
    · refine lv_iconst (v := 1) hx hb dL_law_2840 (by decide) ?_
      refine W.widen (k := 603072) (n := 7202922) (by omega) (by omega) ?_
      exact kend H locs ls hS
    have hi2 : i + 2 < L := by
      rcases Nat.lt_or_ge (i + 2) L with q | q
      · exact q
      · exact absurd ((zi_gt hi hL).mpr (by omega)) c9
    have hA := harm w mw i hi2 hI
    refine lv_aload_n hx hb dL_law_37 rfl (lv_at hl 0 rfl) ?_
    refine lv_iload hx hb dL_law_38 (lv_at hl 5 rfl) ?_
    refine va_sld hx hb hX hbl (Nat.not_le.mpr hbl) hS (vp_in_nI (n := i) (by omega) (by omega)) dL_law_40 ?_
    refine lv_bipush (v := 63) hx hb dL_law_41 (by decide) ?_
    refine lv_iand hx hb dL_law_43 ?_
    have kn : ∀ (w' m' : va_W) (H1 : Heap) (locs1 : List Loc) (ls1 : Array Slot), I w' m' → va_P D vwCl (w' ++ m') H1 → va_D (fun q => s.heap.size ≤ q) (w' ++ m') → va_S (fun q => s.heap.size ≤ q) s.heap H1 locs1 → lv_has ls1 9 [(0, .ref b), (1, .ref x0), (2, .ref x9), (3, .ref ow), (4, .ref od), (5, .int (nI i))] → W p l e room_1 s m args below meth c H1 locs1 (cells + 2) (slots + 96) Q (F0 m 2834 ls1 []) := by
      intro w' m' H1 locs1 ls1 hI' hP' hD' hS' hl'
      refine lv_iinc (k := 5) (lv' := [(5, .int (nI (i + 3))), (0, .ref b), (1, .ref x0), (2, .ref x9), (3, .ref ow), (4, .ref od)]) hx hb dL_law_2834 hl' rfl (nI_add i 3) (by decide) rfl (fun ls hl => ?_)
      refine lv_goto (tgt := 28) hx hb dL_law_2837 (by decide) ?_
      exact ih (i + 3) w' m' H1 locs1 (cells + 2) (slots + 96) ls (by omega) (by omega) hI' hP' hD' hS' (by omega) (by omega) (lv_sub hl [1, 2, 3, 4, 5, 0] rfl)
    have kno : W p l e room_1 s m args below meth c H locs cells slots Q (F0 m 2834 ls []) := W.widen (k := cells + 2) (n := slots + 96) (by omega) (by omega) (kn w mw H locs ls hI hP hD hS hl)
    obtain ⟨k, hk, ek⟩ := zi_63 (xs (nI i).toNatClampNeg)
    rw [ek]
    match k, hk with
    | 0, _ => exact lv_tableIn (tgt := 304) hx hb dL_law_44 (by decide +kernel) (by decide +kernel) rfl (by decide) (law_0 hg hx hb hml hown hts hG hK hX hbl hi2 hL hI hhd hP hD hS ls hl (by omega) (by omega) hA.a0 kn)
    | 1, _ => exact lv_tableIn (tgt := 372) hx hb dL_law_44 (by decide +kernel) (by decide +kernel) rfl (by decide) (law_1 hg hx hb hml hown hts hG hK hX hbl hi2 hL hI hhd hP hD hS ls hl (by omega) (by omega) hA.a1 kn)
    | 2, _ => exact lv_tableIn (tgt := 416) hx hb dL_law_44 (by decide +kernel) (by decide +kernel) rfl (by decide) (law_2 hg hx hb hml hown hts hG hK hX hbl hi2 hL hI hhd hP hD hS ls hl (by omega) (by omega) hA.a2 kn)
    | 3, _ => exact lv_tableIn (tgt := 472) hx hb dL_law_44 (by decide +kernel) (by decide +kernel) rfl (by decide) (law_3 hg hx hb hml hown hts hG hK hX hbl hi2 hL hI hhd hP hD hS ls hl (by omega) (by omega) hA.a3 kn)
    | 4, _ => exact lv_tableIn (tgt := 528) hx hb dL_law_44 (by decide +kernel) (by decide +kernel) rfl (by decide) (law_4 hg hx hb hml hown hts hG hK hX hbl hi2 hL hI hhd hP hD hS ls hl (by omega) (by omega) hA.a4 kn)
    | 5, _ => exact lv_tableIn (tgt := 584) hx hb dL_law_44 (by decide +kernel) (by decide +kernel) rfl (by decide) (law_5 hg hx hb hml hown hts hG hK hX hbl hi2 hL hI hhd hP hD hS ls hl (by omega) (by omega) hA.a5 kn)
    | 6, _ => exact lv_tableIn (tgt := 640) hx hb dL_law_44 (by decide +kernel) (by decide +kernel) rfl (by decide) (law_6 hg hx hb hml hown hts hG hK hX hbl hi2 hL hI hhd hP hD hS ls hl (by omega) (by omega) hA.a6 kn)
    | 7, _ => exact lv_tableIn (tgt := 724) hx hb dL_law_44 (by decide +kernel) (by decide +kernel) rfl (by decide) (law_7 hg hx hb hml hown hts hG hK hX hbl hi2 hL hI hhd hP hD hS ls hl (by omega) (by omega) hA.a7 kn)
    | 8, _ => exact lv_tableIn (tgt := 787) hx hb dL_law_44 (by decide +kernel) (by decide +kernel) rfl (by decide) (law_8 hg hx hb hml hown hts hG hK hX hbl hi2 hL hI hhd hP hD hS ls hl (by omega) (by omega) hA.a8 kn)
    | 9, _ => exact lv_tableIn (tgt := 850) hx hb dL_law_44 (by decide +kernel) (by decide +kernel) rfl (by decide) (law_9 hg hx hb hml hown hts hG hK hX hbl hi2 hL hI hhd hP hD hS ls hl (by omega) (by omega) hA.a9 kn)
    | 10, _ => exact lv_tableIn (tgt := 906) hx hb dL_law_44 (by decide +kernel) (by decide +kernel) rfl (by decide) (law_10 hg hx hb hml hown hts hG hK hX hbl hi2 hL hI hhd hP hD hS ls hl (by omega) (by omega) hA.a10 kn)
    | 11, _ => exact lv_tableIn (tgt := 962) hx hb dL_law_44 (by decide +kernel) (by decide +kernel) rfl (by decide) (law_11 hg hx hb hml hown hts hG hK hX hbl hi2 hL hI hhd hP hD hS ls hl (by omega) (by omega) hA.a11 kn)
    | 12, _ => exact lv_tableIn (tgt := 975) hx hb dL_law_44 (by decide +kernel) (by decide +kernel) rfl (by decide) (law_12 hg hx hb hml hown hts hG hK hX hbl hi2 hL hI hhd hP hD hS ls hl (by omega) (by omega) hA.a12 kn)
    | 13, _ => exact lv_tableIn (tgt := 988) hx hb dL_law_44 (by decide +kernel) (by decide +kernel) rfl (by decide) (law_13 hg hx hb hml hown hts hG hK hX hbl hi2 hL hI hhd hP hD hS ls hl (by omega) (by omega) hA.a13 kn)
    | 14, _ => exact lv_tableIn (tgt := 1001) hx hb dL_law_44 (by decide +kernel) (by decide +kernel) rfl (by decide) (law_14 hg hx hb hml hown hts hG hK hX hbl hi2 hL hI hhd hP hD hS ls hl (by omega) (by omega) hA.a14 kn)
    | 15, _ => exact lv_tableIn (tgt := 1014) hx hb dL_law_44 (by decide +kernel) (by decide +kernel) rfl (by decide) (law_15 hg hx hb hml hown hts hG hK hX hbl hi2 hL hI hhd hP hD hS ls hl (by omega) (by omega) hA.a15 kn)
    | 16, _ => exact lv_tableIn (tgt := 1027) hx hb dL_law_44 (by decide +kernel) (by decide +kernel) rfl (by decide) (law_16 hg hx hb hml hown hts hG hK hX hbl hi2 hL hI hhd hP hD hS ls hl (by omega) (by omega) hA.a16 kn)
    | 17, _ => exact lv_tableIn (tgt := 1083) hx hb dL_law_44 (by decide +kernel) (by decide +kernel) rfl (by decide) (law_17 hg hx hb hml hown hts hG hK hX hbl hi2 hL hI hhd hP hD hS ls hl (by omega) (by omega) hA.a17 kn)
    | 18, _ => exact lv_tableIn (tgt := 1151) hx hb dL_law_44 (by decide +kernel) (by decide +kernel) rfl (by decide) (law_18 hg hx hb hml hown hts hG hK hX hbl hi2 hL hI hhd hP hD hS ls hl (by omega) (by omega) hA.a18 kn)
    | 19, _ => exact lv_tableIn (tgt := 1207) hx hb dL_law_44 (by decide +kernel) (by decide +kernel) rfl (by decide) (law_19 hg hx hb hml hown hts hG hK hX hbl hi2 hL hI hhd hP hD hS ls hl (by omega) (by omega) hA.a19 kn)
    | 20, _ => exact lv_tableIn (tgt := 1263) hx hb dL_law_44 (by decide +kernel) (by decide +kernel) rfl (by decide) (law_20 hg hx hb hml hown hts hG hK hX hbl hi2 hL hI hhd hP hD hS ls hl (by omega) (by omega) hA.a20 kn)
    | 21, _ => exact lv_tableIn (tgt := 1319) hx hb dL_law_44 (by decide +kernel) (by decide +kernel) rfl (by decide) (law_21 hg hx hb hml hown hts hG hK hX hbl hi2 hL hI hhd hP hD hS ls hl (by omega) (by omega) hA.a21 kn)
    | 22, _ => exact lv_tableIn (tgt := 1332) hx hb dL_law_44 (by decide +kernel) (by decide +kernel) rfl (by decide) (law_22 hg hx hb hml hown hts hG hK hX hbl hi2 hL hI hhd hP hD hS ls hl (by omega) (by omega) hA.a22 kn)
    | 23, _ => exact lv_tableIn (tgt := 1388) hx hb dL_law_44 (by decide +kernel) (by decide +kernel) rfl (by decide) (law_23 hg hx hb hml hown hts hG hK hX hbl hi2 hL hI hhd hP hD hS ls hl (by omega) (by omega) hA.a23 kn)
    | 24, _ => exact lv_tableIn (tgt := 1401) hx hb dL_law_44 (by decide +kernel) (by decide +kernel) rfl (by decide) (law_24 hg hx hb hml hown hts hG hK hX hbl hi2 hL hI hhd hP hD hS ls hl (by omega) (by omega) hA.a24 kn)
    | 25, _ => exact lv_tableIn (tgt := 1414) hx hb dL_law_44 (by decide +kernel) (by decide +kernel) rfl (by decide) (law_25 hg hx hb hml hown hts hG hK hX hbl hi2 hL hI hhd hP hD hS ls hl (by omega) (by omega) hA.a25 kn)
    | 26, _ => exact lv_tableIn (tgt := 1427) hx hb dL_law_44 (by decide +kernel) (by decide +kernel) rfl (by decide) (law_26 hg hx hb hml hown hts hG hK hX hbl hi2 hL hI hhd hP hD hS ls hl (by omega) (by omega) hA.a26 kn)
    | 27, _ => exact lv_tableIn (tgt := 1502) hx hb dL_law_44 (by decide +kernel) (by decide +kernel) rfl (by decide) (law_27 hg hx hb hml hown hts hG hK hX hbl hi2 hL hI hhd hP hD hS ls hl (by omega) (by omega) hA.a27 kn)
    | 28, _ => exact lv_tableIn (tgt := 1558) hx hb dL_law_44 (by decide +kernel) (by decide +kernel) rfl (by decide) (law_28 hg hx hb hml hown hts hG hK hX hbl hi2 hL hI hhd hP hD hS ls hl (by omega) (by omega) hA.a28 kn)
    | 29, _ => exact lv_tableIn (tgt := 1621) hx hb dL_law_44 (by decide +kernel) (by decide +kernel) rfl (by decide) (law_29 hg hx hb hml hown hts hG hK hX hbl hi2 hL hI hhd hP hD hS ls hl (by omega) (by omega) hA.a29 kn)
    | 30, _ => exact lv_tableIn (tgt := 1634) hx hb dL_law_44 (by decide +kernel) (by decide +kernel) rfl (by decide) (law_30 hg hx hb hml hown hts hG hK hX hbl hi2 hL hI hhd hP hD hS ls hl (by omega) (by omega) hA.a30 kn)
    | 31, _ => exact lv_tableIn (tgt := 1647) hx hb dL_law_44 (by decide +kernel) (by decide +kernel) rfl (by decide) (law_31 hg hx hb hml hown hts hG hK hX hbl hi2 hL hI hhd hP hD hS ls hl (by omega) (by omega) hA.a31 kn)
    | 32, _ => exact lv_tableIn (tgt := 1703) hx hb dL_law_44 (by decide +kernel) (by decide +kernel) rfl (by decide) (law_32 hg hx hb hml hown hts hG hK hX hbl hi2 hL hI hhd hP hD hS ls hl (by omega) (by omega) hA.a32 kn)
    | 33, _ => exact lv_tableIn (tgt := 1759) hx hb dL_law_44 (by decide +kernel) (by decide +kernel) rfl (by decide) (law_33 hg hx hb hml hown hts hG hK hX hbl hi2 hL hI hhd hP hD hS ls hl (by omega) (by omega) hA.a33 kn)
    | 34, _ => exact lv_tableIn (tgt := 1772) hx hb dL_law_44 (by decide +kernel) (by decide +kernel) rfl (by decide) (law_34 hg hx hb hml hown hts hG hK hX hbl hi2 hL hI hhd hP hD hS ls hl (by omega) (by omega) hA.a34 kn)
    | 35, _ => exact lv_tableIn (tgt := 1785) hx hb dL_law_44 (by decide +kernel) (by decide +kernel) rfl (by decide) (law_35 hg hx hb hml hown hts hG hK hX hbl hi2 hL hI hhd hP hD hS ls hl (by omega) (by omega) hA.a35 kn)
    | 36, _ => exact lv_tableIn (tgt := 1841) hx hb dL_law_44 (by decide +kernel) (by decide +kernel) rfl (by decide) (law_36 hg hx hb hml hown hts hG hK hX hbl hi2 hL hI hhd hP hD hS ls hl (by omega) (by omega) hA.a36 kn)
    | 37, _ => exact lv_tableIn (tgt := 1897) hx hb dL_law_44 (by decide +kernel) (by decide +kernel) rfl (by decide) (law_37 hg hx hb hml hown hts hG hK hX hbl hi2 hL hI hhd hP hD hS ls hl (by omega) (by omega) hA.a37 kn)
    | 38, _ => exact lv_tableIn (tgt := 1953) hx hb dL_law_44 (by decide +kernel) (by decide +kernel) rfl (by decide) (law_38 hg hx hb hml hown hts hG hK hX hbl hi2 hL hI hhd hP hD hS ls hl (by omega) (by omega) hA.a38 kn)
    | 39, _ => exact lv_tableIn (tgt := 2009) hx hb dL_law_44 (by decide +kernel) (by decide +kernel) rfl (by decide) (law_39 hg hx hb hml hown hts hG hK hX hbl hi2 hL hI hhd hP hD hS ls hl (by omega) (by omega) hA.a39 kn)
    | 40, _ => exact lv_tableIn (tgt := 2065) hx hb dL_law_44 (by decide +kernel) (by decide +kernel) rfl (by decide) (law_40 hg hx hb hml hown hts hG hK hX hbl hi2 hL hI hhd hP hD hS ls hl (by omega) (by omega) hA.a40 kn)
    | 41, _ => exact lv_tableIn (tgt := 2121) hx hb dL_law_44 (by decide +kernel) (by decide +kernel) rfl (by decide) (law_41 hg hx hb hml hown hts hG hK hX hbl hi2 hL hI hhd hP hD hS ls hl (by omega) (by omega) hA.a41 kn)
    | 42, _ => exact lv_tableIn (tgt := 2134) hx hb dL_law_44 (by decide +kernel) (by decide +kernel) rfl (by decide) (law_42 hg hx hb hml hown hts hG hK hX hbl hi2 hL hI hhd hP hD hS ls hl (by omega) (by omega) hA.a42 kn)
    | 43, _ => exact lv_tableIn (tgt := 2147) hx hb dL_law_44 (by decide +kernel) (by decide +kernel) rfl (by decide) (law_43 hg hx hb hml hown hts hG hK hX hbl hi2 hL hI hhd hP hD hS ls hl (by omega) (by omega) hA.a43 kn)
    | 44, _ => exact lv_tableIn (tgt := 2160) hx hb dL_law_44 (by decide +kernel) (by decide +kernel) rfl (by decide) (law_44 hg hx hb hml hown hts hG hK hX hbl hi2 hL hI hhd hP hD hS ls hl (by omega) (by omega) hA.a44 kn)
    | 45, _ => exact lv_tableIn (tgt := 2173) hx hb dL_law_44 (by decide +kernel) (by decide +kernel) rfl (by decide) (law_45 hg hx hb hml hown hts hG hK hX hbl hi2 hL hI hhd hP hD hS ls hl (by omega) (by omega) hA.a45 kn)
    | 46, _ => exact lv_tableIn (tgt := 2186) hx hb dL_law_44 (by decide +kernel) (by decide +kernel) rfl (by decide) (law_46 hg hx hb hml hown hts hG hK hX hbl hi2 hL hI hhd hP hD hS ls hl (by omega) (by omega) hA.a46 kn)
    | 47, _ => exact lv_tableIn (tgt := 2251) hx hb dL_law_44 (by decide +kernel) (by decide +kernel) rfl (by decide) (law_47 hg hx hb hml hown hts hG hK hX hbl hi2 hL hI hhd hP hD hS ls hl (by omega) (by omega) hA.a47 kn)
    | 48, _ => exact lv_tableIn (tgt := 2317) hx hb dL_law_44 (by decide +kernel) (by decide +kernel) rfl (by decide) (law_48 hg hx hb hml hown hts hG hK hX hbl hi2 hL hI hhd hP hD hS ls hl (by omega) (by omega) hA.a48 kn)
    | 49, _ => exact lv_tableIn (tgt := 2330) hx hb dL_law_44 (by decide +kernel) (by decide +kernel) rfl (by decide) (law_49 hg hx hb hml hown hts hG hK hX hbl hi2 hL hI hhd hP hD hS ls hl (by omega) (by omega) hA.a49 kn)
    | 50, _ => exact lv_tableIn (tgt := 2343) hx hb dL_law_44 (by decide +kernel) (by decide +kernel) rfl (by decide) (law_50 hg hx hb hml hown hts hG hK hX hbl hi2 hL hI hhd hP hD hS ls hl (by omega) (by omega) hA.a50 kn)
    | 51, _ => exact lv_tableIn (tgt := 2399) hx hb dL_law_44 (by decide +kernel) (by decide +kernel) rfl (by decide) (law_51 hg hx hb hml hown hts hG hK hX hbl hi2 hL hI hhd hP hD hS ls hl (by omega) (by omega) hA.a51 kn)
    | 52, _ => exact lv_tableIn (tgt := 2455) hx hb dL_law_44 (by decide +kernel) (by decide +kernel) rfl (by decide) (law_52 hg hx hb hml hown hts hG hK hX hbl hi2 hL hI hhd hP hD hS ls hl (by omega) (by omega) hA.a52 kn)
    | 53, _ => exact lv_tableIn (tgt := 2513) hx hb dL_law_44 (by decide +kernel) (by decide +kernel) rfl (by decide) (law_53 hg hx hb hml hown hts hG hK hX hbl hi2 hL hI hhd hP hD hS ls hl (by omega) (by omega) hA.a53 kn)
    | 54, _ => exact lv_tableIn (tgt := 2557) hx hb dL_law_44 (by decide +kernel) (by decide +kernel) rfl (by decide) (law_54 hg hx hb hml hown hts hG hK hX hbl hi2 hL hI hhd hP hD hS ls hl (by omega) (by omega) hA.a54 kn)
    | 55, _ => exact lv_tableIn (tgt := 2601) hx hb dL_law_44 (by decide +kernel) (by decide +kernel) rfl (by decide) (law_55 hg hx hb hml hown hts hG hK hX hbl hi2 hL hI hhd hP hD hS ls hl (by omega) (by omega) hA.a55 kn)
    | 56, _ => exact lv_tableIn (tgt := 2645) hx hb dL_law_44 (by decide +kernel) (by decide +kernel) rfl (by decide) (law_56 hg hx hb hml hown hts hG hK hX hbl hi2 hL hI hhd hP hD hS ls hl (by omega) (by omega) hA.a56 kn)
    | 57, _ => exact lv_tableIn (tgt := 2689) hx hb dL_law_44 (by decide +kernel) (by decide +kernel) rfl (by decide) (law_57 hg hx hb hml hown hts hG hK hX hbl hi2 hL hI hhd hP hD hS ls hl (by omega) (by omega) hA.a57 kn)
    | 58, _ => exact lv_tableIn (tgt := 2733) hx hb dL_law_44 (by decide +kernel) (by decide +kernel) rfl (by decide) (law_58 hg hx hb hml hown hts hG hK hX hbl hi2 hL hI hhd hP hD hS ls hl (by omega) (by omega) hA.a58 kn)
    | 59, _ => exact lv_tableIn (tgt := 2777) hx hb dL_law_44 (by decide +kernel) (by decide +kernel) rfl (by decide) (law_59 hg hx hb hml hown hts hG hK hX hbl hi2 hL hI hhd hP hD hS ls hl (by omega) (by omega) hA.a59 kn)
    | 60, _ => exact lv_tableIn (tgt := 2790) hx hb dL_law_44 (by decide +kernel) (by decide +kernel) rfl (by decide) (law_60 hg hx hb hml hown hts hG hK hX hbl hi2 hL hI hhd hP hD hS ls hl (by omega) (by omega) hA.a60 kn)
    | 61, _ => exact lv_tableOut (tgt := 2834) hx hb dL_law_44 (by decide +kernel) (by decide) kno
    | 62, _ => exact lv_tableOut (tgt := 2834) hx hb dL_law_44 (by decide +kernel) (by decide) kno
    | 63, _ => exact lv_tableOut (tgt := 2834) hx hb dL_law_44 (by decide +kernel) (by decide) kno
    | k + 64, h => exact absurd h (by omega)
end ZLOOP
