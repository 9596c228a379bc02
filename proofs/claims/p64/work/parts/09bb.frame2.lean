/-- the exceptions of the class's own throws -/
abbrev zExc : List String := ["java/lang/IndexOutOfBoundsException", "java/lang/IllegalArgumentException", "java/lang/UnsupportedOperationException", "java/util/NoSuchElementException", "java/lang/ArithmeticException", "java/lang/IllegalStateException"]
/-- the words of their making that calls don't hand on by themselves -/
def zBadW : List Cond := [.declares ⟨"java/lang/RuntimeException", "<init>", "(Ljava/lang/String;)V"⟩, .declares ⟨"java/lang/Exception", "<init>", "(Ljava/lang/String;)V"⟩, .declares ⟨"java/lang/Throwable", "<init>", "(Ljava/lang/String;)V"⟩] ++ zExc.map (fun X => .castable X X)
/-- their texts -/
def zStr : List (Nat × String) := [(71, "the first needle is greater than the last one"), (97, "the needle has no loops"), (123, "no needle from here on is in work without loops"), (131, "the units of yarn are out of range"), (136, "the tension is out of range"), (138, "the mask is out of range"), (154, "the pattern has no such row or column"), (215, "no course has this position"), (220, "no feeder has this position"), (239, "there are no courses"), (242, "no needle is in work"), (271, "the output has no character at this index"), (276, "the character is out of range"), (283, "the input is full"), (292, "the input has a syntax error"), (305, "there was no syntax error"), (310, "the latest rejection is not that of a command"), (313, "there is no change to undo"), (318, "there is no snapshot"), (349, "a command has an argument that its method does not accept"), (353, "the call is rejected"), (356, "no call was rejected"), (358, "there is no such course"), (363, "there is no such needle"), (368, "there is no such feeder"), (373, "the number of courses is out of range")]
/-- what throws rely on -/
def zTF (A : Nat → Prop) (U : State) : Prop :=
  (∀ w ∈ zBadW, va_Nw w U) ∧ vx_Zq Bundle.tN "UNASSIGNED_STACK" Bundle.steD A U U.heap ∧ vx_Zq Bundle.tN "SUPPRESSED_SENTINEL" Bundle.listD A U U.heap ∧ ∀ q ∈ zStr, ∃ sa, vk_R RX5 q.1 q.2 sa U
def zGT (G : zG) : Prop := zGN G ∧ ∀ (A : Nat → Prop) (U : State), G A U → zTF A U
/-- the contract of a method that returns (X = none) or throws (X = some its class) -/
def zMX (G : zG) (D : va_G) (cl : List vw_C) (tys : List (ClassId × FieldType)) (l : Launch) (y : MethodName) (ws : List Cond) (rm : Room) (as : List Value) (w : va_W) (X : Option String) (o : Option Value) (w' wx : va_W) (mc ms : Nat) : Prop :=
  ∀ sz : Nat, vx_Met l y ws rm (zPre G D cl tys as w sz) (fun a st oc t => X = none ∧ zQ D cl tys o w' (va_A w sz) a st oc t) (fun E st t => X = some E ∧ (va_P D cl wx t.heap ∧ va_K D cl tys t ∧ va_D (va_A w sz) wx) ∧ va_F (va_A w sz) st t) mc ms (va_A w sz)
theorem zBad_ot : ∀ w ∈ zBadW, w.onTables = true := by decide +kernel
section ZX
variable {D : va_G} {cl : List vw_C} {tys : List (ClassId × FieldType)}
abbrev zXQ (D : va_G) (cl : List vw_C) (tys : List (ClassId × FieldType)) (X : Option String) (o : Option Value) (w' : va_W) (A : Nat → Prop) : Array Value → State → Outcome → State → Prop := fun a st oc t => X = none ∧ zQ D cl tys o w' A a st oc t
abbrev zXC (D : va_G) (cl : List vw_C) (tys : List (ClassId × FieldType)) (X : Option String) (wx : va_W) (A : Nat → Prop) : String → State → State → Prop := fun E st t => X = some E ∧ (va_P D cl wx t.heap ∧ va_K D cl tys t ∧ va_D A wx) ∧ va_F A st t
theorem zMX_of {G : zG} {l : Launch} {y : MethodName} {ws ws' : List Cond} {rm : Room} {as : List Value} {w w' wx : va_W} {X : Option String} {o : Option Value} {mc ms : Nat} {cc : ByteArray} {maxL : Nat} {ret : Option FieldType} (hy : plainName y.cls = true) (hw : ws = Cond.code y cc maxL ret :: ws') (hml0 : (lg_sl as).length ≤ maxL)
    (body : ∀ (p : Program) (e : Env) (s : State) (m : MethodId) (below : List Frame) (meth : Method) (c : Code) (A : Nat → Prop) (Q : State → Prop), (∀ t, vx_MQ below (zXQ D cl tys X o w' A) (zXC D cl tys X wx A) as.toArray s mc ms A t → Q t) → (∀ x ∈ c.exceptionTable.toList, False) → p.tables.exec = Jvm.exec → c.code = cc → c.maxLocals = maxL → meth.sig.returnType = ret → (∀ q ∈ ws, q.before as.toArray s = true) → s.vm.findClass y.cls = some m.cls → meth.locks = false → G A s → va_K D cl tys s → va_P D cl w s.heap → va_D A w → (∀ q, s.heap.size ≤ q → A q) → va_S A s.heap s.heap [] → ∀ ls : Array Slot, lv_has ls maxL (lv_args 0 as) → W p l e rm s m as.toArray below meth c s.heap [] 0 0 Q (F0 m 0 ls [])) : zMX G D cl tys l y ws rm as w X o w' wx mc ms := by
  intro sz
  refine vx_ofW (cc := cc) (maxL := maxL) (ret := ret) hy hw ?_
  intro p e s m args below meth c s₁ B hml ht hv
  obtain ⟨rfl, hsz, hG, hP, hK, hD0⟩ := hv
  have hts := atoms_spec (ws := ws) B.pre
  have hown := findClass_of_methodNamed B.named
  subst hsz
  have hl := lv_entry as (n := maxL) hml0
  rw [lg_entry_eq]
  exact body p e s m below meth c _ _ (fun _ h => h) ht B.exec B.bytes hml B.returns hts hown B.notSynchronized hG hK hP hD0.self (fun q h => Or.inr h) va_S.rf _ hl
variable {p : Program} {l : Launch} {e : Env} {R : Room} {s : State} {m : MethodId} {args : Array Value} {below : List Frame} {meth : Method} {c : Code} {H : Heap} {locs : List Loc} {cells slots : Nat} {Q : State → Prop}
variable {A : Nat → Prop} {w w' wx ws : va_W} {X : Option String} {o : Option Value} {mc ms : Nat} {cc : ByteArray} {pc : Nat} {ls : Array Slot} {rest : List Value}
/-- ends -/
theorem zxends (hX : X = none) (hK : va_K D cl tys s) (hP : va_P D cl w H) (hD : va_D A w) (hS : va_S A s.heap H locs) (hw : w = w') : ∀ t : State, t.heap = H → s.WarmedH t.vm → zXQ D cl tys X o w' A args s (.returned o) t :=
  fun t ht hW => ⟨hX, z_ends hK hP hD hS hw t ht hW⟩
theorem zxiret {v r : Int32} (hend : ∀ t, vx_MQ below (zXQ D cl tys X (some (.int r)) w' A) (zXC D cl tys X wx A) args s mc ms A t → Q t) (hx : p.tables.exec = Jvm.exec) (hb : c.code = cc) (hr : meth.sig.returnType = some .int) (hlk : meth.locks = false) (hK : va_K D cl tys s) (hP : va_P D cl w H) (hD : va_D A w) (hS : va_S A s.heap H locs) (d : decode cc pc = .ok (.ireturn, 1)) (hc : cells ≤ mc) (hs : slots ≤ ms) (hX : X = none) (hv : v = r) (hw : w = w') : W p l e R s m args below meth c H locs cells slots Q (F0 m pc ls [.int v]) := by
  subst hv
  exact z_mono hend (W.widen hc hs (vx_ret (W.iret (v := v) hx hb hr (zxends hX hK hP hD hS hw) hS.2.2 d hlk)))
theorem zxzret {v r : Int32} {ty : FieldType} (hend : ∀ t, vx_MQ below (zXQ D cl tys X (some (.int r)) w' A) (zXC D cl tys X wx A) args s mc ms A t → Q t) (hx : p.tables.exec = Jvm.exec) (hb : c.code = cc) (hr : meth.sig.returnType = some ty) (hlk : meth.locks = false) (hK : va_K D cl tys s) (hP : va_P D cl w H) (hD : va_D A w) (hS : va_S A s.heap H locs) (d : decode cc pc = .ok (.ireturn, 1)) (hn : narrow ty (.int v) = .int v) (hc : cells ≤ mc) (hs : slots ≤ ms) (hX : X = none) (hv : v = r) (hw : w = w') : W p l e R s m args below meth c H locs cells slots Q (F0 m pc ls [.int v]) := by
  subst hv
  exact z_mono hend (W.widen hc hs (vx_ret (W.zret (v := v) hx hb hr hn (zxends hX hK hP hD hS hw) hS.2.2 d hlk)))
theorem zxvret (hend : ∀ t, vx_MQ below (zXQ D cl tys X none w' A) (zXC D cl tys X wx A) args s mc ms A t → Q t) (hx : p.tables.exec = Jvm.exec) (hb : c.code = cc) (hr : meth.sig.returnType = none) (hlk : meth.locks = false) (hK : va_K D cl tys s) (hP : va_P D cl w H) (hD : va_D A w) (hS : va_S A s.heap H locs) (d : decode cc pc = .ok (.return_, 1)) (hc : cells ≤ mc) (hs : slots ≤ ms) (hX : X = none) (hw : w = w') : W p l e R s m args below meth c H locs cells slots Q (F0 m pc ls []) :=
  z_mono hend (W.widen hc hs (vx_ret (W.vret hx hb hr (zxends hX hK hP hD hS hw) hS.2.2 d hlk)))
theorem zxthrown {E : String} (hX : X = some E) (hK : va_K D cl tys s) (hP : va_P D cl w H) (hD : va_D A w) (hS : va_S A s.heap H locs) (hw : w = wx) : ∀ t : State, s.vm.Alike t.vm → H.size ≤ t.heap.size → (∀ q : Nat, q < H.size → t.heap[q]? = H[q]?) → zXC D cl tys X wx A E s t := by
  intro t hvm hsz hq
  subst hw
  refine ⟨hX, ⟨hP.kept (fun k q hk => hq q.1 (hP k q hk).lt), va_K.moved hvm hK, hD⟩, Nat.le_trans hS.1 hsz, fun q h1 h2 => ?_⟩
  rw [hq q (Nat.lt_of_lt_of_le h1 hS.1)]
  exact hS.2.1 q h1 h2
/-- throw new E("..") -/
theorem zthrow {G : zG} {cls text : String} {names : List String} {ik is ic : Nat} {wsM : List Cond} {pc1 : Nat} (hg : zGT G) (hl : l.stackTraces = false) (hend : ∀ t, vx_MQ below (zXQ D cl tys X o w' A) (zXC D cl tys X wx A) args s mc ms A t → Q t) (hlk : meth.locks = false) (htab : ∀ x ∈ c.exceptionTable.toList, False) (hx : p.tables.exec = Jvm.exec) (hb : c.code = cc) (hts : ∀ q ∈ wsM, q.before args s = true) (hown : s.vm.findClass RX5 = some m.cls)
    (hcls : Bundle.fit cls = true) (hnames : ∀ n ∈ names, Bundle.fit n = true) (hE : cls ∈ zExc) (hT : (is, text) ∈ zStr)
    (hk : Cond.classLink RX5 ik cls ∈ wsM) (hini : Cond.initialized cls ∈ wsM) (hat : ∀ w ∈ (vx_atS RX5 ic cls names).filter goodWord, w ∈ wsM) (hbad : ∀ w ∈ (vx_atS RX5 ic cls names).filter (fun w => !goodWord w), w ∈ zBadW)
    (hgood : ∀ w ∈ Cond.classLink RX5 ik cls :: Cond.initialized cls :: vx_atS RX5 ic cls names, vx_ot w = true)
    (hG : G A s) (hK : va_K D cl tys s) (hP : va_P D cl w H) (hD : va_D A w) (hS : va_S A s.heap H locs) (hsize : ls.size = c.maxLocals)
    (d0 : decode cc pc = .ok (.new ik, 3)) (d3 : decode cc (pc + 3) = .ok (.dup, 1)) (d4 : decode cc (pc + 4) = .ok (.ldc_w is, 3)) (d6 : decode cc (pc + 7) = .ok (.invokespecial ic, 3)) (d9 : decode cc (pc + 10) = .ok (.athrow, 1))
    (hRframes : names.length + 3 < R.frames) (hRlocals : (rest.map fun v => v.category).sum + (13 * (names.length + 1) + 43) ≤ R.locals) (hRcells : cells + 1 ≤ R.cells) (hRslots : slots + 6 ≤ R.slots) (hc : cells + 1 ≤ mc) (hs : slots + 6 ≤ ms) (hX : X = some cls) (hw : w = wx) :
    W p l e R s m args below meth c H locs cells slots Q (F0 m pc ls rest) := by
  obtain ⟨hcast, hU, hN, hstr⟩ := hg.2 A s hG
  obtain ⟨sa, hsa⟩ := hstr _ hT
  refine z_mono hend (vx_throwSW hx hb hl hown hcls hnames (hts _ hk) (hts _ hini) hsa ?_ hgood hU hN hS hsize d0 d3 d4 d6 d9 (fun x hx => (htab x hx).elim) hRframes hRlocals hRcells hRslots hlk (zxthrown hX hK hP hD hS hw) hS.2.2 hc hs)
  refine vx_hat (B := zBadW) (fun w h => hts w (hat w h)) hbad ?_
  intro w h
  exact va_Nw.use (zBad_ot w h) (hcast w h)
theorem zthrow1 {G : zG} {cls text : String} {names : List String} {ik is ic : Nat} {wsM : List Cond} {pc1 : Nat} (hg : zGT G) (hl : l.stackTraces = false) (hend : ∀ t, vx_MQ below (zXQ D cl tys X o w' A) (zXC D cl tys X wx A) args s mc ms A t → Q t) (hlk : meth.locks = false) (htab : ∀ x ∈ c.exceptionTable.toList, False) (hx : p.tables.exec = Jvm.exec) (hb : c.code = cc) (hts : ∀ q ∈ wsM, q.before args s = true) (hown : s.vm.findClass RX5 = some m.cls)
    (hcls : Bundle.fit cls = true) (hnames : ∀ n ∈ names, Bundle.fit n = true) (hE : cls ∈ zExc) (hT : (is, text) ∈ zStr)
    (hk : Cond.classLink RX5 ik cls ∈ wsM) (hini : Cond.initialized cls ∈ wsM) (hat : ∀ w ∈ (vx_atS RX5 ic cls names).filter goodWord, w ∈ wsM) (hbad : ∀ w ∈ (vx_atS RX5 ic cls names).filter (fun w => !goodWord w), w ∈ zBadW)
    (hgood : ∀ w ∈ Cond.classLink RX5 ik cls :: Cond.initialized cls :: vx_atS RX5 ic cls names, vx_ot w = true)
    (hG : G A s) (hK : va_K D cl tys s) (hP : va_P D cl w H) (hD : va_D A w) (hS : va_S A s.heap H locs) (hsize : ls.size = c.maxLocals)
    (d0 : decode cc pc = .ok (.new ik, 3)) (d3 : decode cc (pc + 3) = .ok (.dup, 1)) (d4 : decode cc (pc + 4) = .ok (.ldc is, 2)) (d6 : decode cc (pc + 6) = .ok (.invokespecial ic, 3)) (d9 : decode cc (pc + 9) = .ok (.athrow, 1))
    (hRframes : names.length + 3 < R.frames) (hRlocals : (rest.map fun v => v.category).sum + (13 * (names.length + 1) + 43) ≤ R.locals) (hRcells : cells + 1 ≤ R.cells) (hRslots : slots + 6 ≤ R.slots) (hc : cells + 1 ≤ mc) (hs : slots + 6 ≤ ms) (hX : X = some cls) (hw : w = wx) :
    W p l e R s m args below meth c H locs cells slots Q (F0 m pc ls rest) := by
  obtain ⟨hcast, hU, hN, hstr⟩ := hg.2 A s hG
  obtain ⟨sa, hsa⟩ := hstr _ hT
  refine z_mono hend (vx_throwS hx hb hl hown hcls hnames (hts _ hk) (hts _ hini) hsa ?_ hgood hU hN hS hsize d0 d3 d4 d6 d9 (fun x hx => (htab x hx).elim) hRframes hRlocals hRcells hRslots hlk (zxthrown hX hK hP hD hS hw) hS.2.2 hc hs)
  refine vx_hat (B := zBadW) (fun w h => hts w (hat w h)) hbad ?_
  intro w h
  exact va_Nw.use (zBad_ot w h) (hcast w h)
/-- behind a call of a method that returns or throws; what it throws goes through -/
theorem zx_go {Xc : Option String} {oc : Option Value} {wc wc' wcx : va_W} {mcc msc : Nat} {st0 : List Value} {a : Array Value} (isC : List Nat)
    (hr : vx_Run p l e R s m args below meth c H locs cells slots mcc msc (F0 m pc ls st0) rest (zXQ D cl tys Xc oc wc' (va_A wc H.size) a) (zXC D cl tys Xc wcx (va_A wc H.size)) (va_A wc H.size))
    (hend : ∀ t, vx_MQ below (zXQ D cl tys X o w' A) (zXC D cl tys X wx A) args s mc ms A t → Q t) (hlk : meth.locks = false) (htab : ∀ x ∈ c.exceptionTable.toList, False)
    (hK : va_K D cl tys s) (hP : va_P D cl ws H) (hD : va_D A ws) (hS : va_S A s.heap H locs) (hA : ∀ q, s.heap.size ≤ q → A q)
    (hC : isC.map (fun i => ws[i]?) = wc.map some) (hadr : wc'.map (·.1) = wc.map (·.1)) (hadrx : wcx.map (·.1) = wc.map (·.1)) (hcm : cells + mcc ≤ mc) (hsm : slots + msc ≤ ms)
    (hprop : ∀ E, Xc = some E → X = some E ∧ zset ws isC wcx = wx)
    (kk : Xc = none → ∀ (H1 : Heap) (locs1 : List Loc), va_P D cl (zset ws isC wc') H1 → va_D A (zset ws isC wc') → va_S A s.heap H1 locs1 → W p l e R s m args below meth c H1 locs1 (cells + mcc) (slots + msc) Q (F0 m (pc + 3) ls (oc.toList ++ rest))) : W p l e R s m args below meth c H locs cells slots Q (F0 m pc ls st0) := by
  have hF := va_free hD hS hA isC hC
  intro T hT XS
  rcases hr T hT XS with ⟨v, st₀, t, T', L, h0, X', hL, e1, e2, ⟨hX, hv, ⟨qP, -, -⟩, hz, hk⟩, st⟩ | ⟨q9, st₀, t, T', L, E, ce, h0, X', hL, e1, e2, ⟨hX, ⟨qP, -, -⟩, hz, hk⟩, hce, hcv, hcl, st⟩
  · cases hv
    rw [h0] at hz hk
    obtain ⟨t2, a1, b1⟩ := kk hX T'.heap (locs ++ L) (zset_P isC hP hD hC hadr (fun q h1 h2 => by rw [e1]; exact hk q h1 h2) (by rw [e1]; exact qP)) (zset_D isC hD hC hadr)
      ⟨Nat.le_trans hS.1 (by rw [e1]; exact hz), fun q h1 h2 => by rw [e1, hk q (Nat.lt_of_lt_of_le h1 hS.1) (fun z => h2 (hF q z))]; exact hS.2.1 q h1 h2, fun q hq => by
        rcases List.mem_append.mp hq with h | h
        · exact hS.2.2 q h
        · exact hF _ (hL q h)⟩ T' rfl X'
    exact ⟨t2, st t2 a1, b1⟩
  · rw [h0] at hz hk
    obtain ⟨hXE, hwx⟩ := hprop E hX
    have hP1 := zset_P (H1 := T'.heap) isC hP hD hC hadrx (fun q h1 h2 => by rw [e1]; exact hk q h1 h2) (by rw [e1]; exact qP)
    have hD1 := zset_D isC hD hC hadrx
    have hS1 : va_S A s.heap T'.heap (locs ++ L) := ⟨Nat.le_trans hS.1 (by rw [e1]; exact hz), fun q h1 h2 => by rw [e1, hk q (Nat.lt_of_lt_of_le h1 hS.1) (fun z => h2 (hF q z))]; exact hS.2.1 q h1 h2, fun q hq => by
        rcases List.mem_append.mp hq with h | h
        · exact hS.2.2 q h
        · exact hF _ (hL q h)⟩
    have k := vx_out (m := m) (H := T'.heap) (q := q9) (locs := locs ++ L) (p := p) (l := l) (e := e) (R := R) (args := args) (below := below) (pc := pc) (ls := ls) (rest := rest) (cells := cells + mcc) (slots := slots + msc) (Qc := zXQ D cl tys X o w' A) (XC := zXC D cl tys X wx A) (mc := mc) (ms := ms) (free := A) (fun x hx => (htab x hx).elim) hlk (by rw [e1]; exact hce) hcv hcl
      (fun t9 ht9 hvm => zxthrown hXE hK hP1 hD1 hS1 hwx t9 hvm (by rw [ht9]; exact Nat.le_refl _) (fun q _ => by rw [ht9])) hS1.2.2 hcm hsm
    obtain ⟨t2, a1, b1⟩ := k T' rfl X'
    exact ⟨t2, st.trans a1, hend t2 b1⟩
variable {bytes : ByteArray} {nL maxL n index : Nat} {ret : Option FieldType} {wsM Ts : List Cond} {rm : Room} {own host : String} {y : MethodName} {b : Addr} {As st0 : List Value} {G : zG} {Xc : Option String} {oc : Option Value} {wc wc' wcx : va_W} {mcc msc : Nat}
theorem zxcV (isC : List Nat) (q0 : Nat) {ci : Nat} {q : vw_C} {fs : List Value} (hg : zOK G) (S : CallFix p m c cc nL s args Ts own) (hM : zMX G D cl tys l y wsM rm (.ref b :: As) wc Xc oc wc' wcx mcc msc) (cw : CallW R s args own q.1 index y bytes maxL ret wsM rm mcc msc n)
    (hend : ∀ t, vx_MQ below (zXQ D cl tys X o w' A) (zXC D cl tys X wx A) args s mc ms A t → Q t) (hlk : meth.locks = false) (htab : ∀ x ∈ c.exceptionTable.toList, False)
    (hG : G A s) (hK : va_K D cl tys s) (hP : va_P D cl ws H) (hD : va_D A ws) (hS : va_S A s.heap H locs) (hA : ∀ q, s.heap.size ≤ q → A q) (hC : isC.map (fun i => ws[i]?) = wc.map some) (hn : va_nd isC = true) (hadr : wc'.map (·.1) = wc.map (·.1)) (hadrx : wcx.map (·.1) = wc.map (·.1)) (hc : cl[ci]? = some q) (he : ws[q0]? = some (b, .inr (ci, fs)))
    (hAs : As.length = n) (hsize : ls.size = nL) (hstack : st0 = As.reverse ++ .ref b :: rest) (hW : (rest.map fun v => v.category).sum ≤ 8) (hdg : decode cc pc = .ok (.invokevirtual index, 3)) (hf : cells + mcc ≤ R.cells ∧ slots + msc ≤ R.slots) (hcm : cells + mcc ≤ mc) (hsm : slots + msc ≤ ms)
    (hprop : ∀ E, Xc = some E → X = some E ∧ zset ws isC wcx = wx)
    (kk : Xc = none → ∀ (H1 : Heap) (locs1 : List Loc), va_P D cl (zset ws isC wc') H1 → va_D A (zset ws isC wc') → va_S A s.heap H1 locs1 → W p l e R s m args below meth c H1 locs1 (cells + mcc) (slots + msc) Q (F0 m (pc + 3) ls (oc.toList ++ rest))) : W p l e R s m args below meth c H locs cells slots Q (F0 m pc ls st0) :=
  zx_go isC (vx_runV (As := As) (rest := rest) S (hM H.size) cw ⟨z_blind hg, va_recv hK hP hc he, z_pre hg (.ref b :: As) isC hG hK hP hD hS hA hC hn⟩ rfl hAs hsize hstack (lv_room hW) hdg hf) hend hlk htab hK hP hD hS hA hC hadr hadrx hcm hsm hprop kk
theorem zxcS (isC : List Nat) (hg : zOK G) (S : CallFix p m c cc nL s args Ts own) (hM : zMX G D cl tys l y wsM rm As wc Xc oc wc' wcx mcc msc) (cw : CallB R s args own index y bytes maxL ret wsM rm mcc msc n ∧ (Cond.static y).before args s = true)
    (hend : ∀ t, vx_MQ below (zXQ D cl tys X o w' A) (zXC D cl tys X wx A) args s mc ms A t → Q t) (hlk : meth.locks = false) (htab : ∀ x ∈ c.exceptionTable.toList, False)
    (hG : G A s) (hK : va_K D cl tys s) (hP : va_P D cl ws H) (hD : va_D A ws) (hS : va_S A s.heap H locs) (hA : ∀ q, s.heap.size ≤ q → A q) (hC : isC.map (fun i => ws[i]?) = wc.map some) (hn : va_nd isC = true) (hadr : wc'.map (·.1) = wc.map (·.1)) (hadrx : wcx.map (·.1) = wc.map (·.1))
    (hAs : As.length = n) (hsize : ls.size = nL) (hstack : st0 = As.reverse ++ rest) (hW : (rest.map fun v => v.category).sum ≤ 8) (hdg : decode cc pc = .ok (.invokestatic index, 3)) (hf : cells + mcc ≤ R.cells ∧ slots + msc ≤ R.slots) (hcm : cells + mcc ≤ mc) (hsm : slots + msc ≤ ms)
    (hprop : ∀ E, Xc = some E → X = some E ∧ zset ws isC wcx = wx)
    (kk : Xc = none → ∀ (H1 : Heap) (locs1 : List Loc), va_P D cl (zset ws isC wc') H1 → va_D A (zset ws isC wc') → va_S A s.heap H1 locs1 → W p l e R s m args below meth c H1 locs1 (cells + mcc) (slots + msc) Q (F0 m (pc + 3) ls (oc.toList ++ rest))) : W p l e R s m args below meth c H locs cells slots Q (F0 m pc ls st0) :=
  zx_go isC (vx_runS (As := As) (rest := rest) S (hM H.size) cw ⟨z_blind hg, z_pre hg As isC hG hK hP hD hS hA hC hn⟩ rfl hAs hsize hstack (lv_room hW) hdg hf) hend hlk htab hK hP hD hS hA hC hadr hadrx hcm hsm hprop kk
theorem z_topr {x y : Value} (h : x = y) (k : W p l e R s m args below meth c H locs cells slots Q (F0 m pc ls (y :: rest))) : W p l e R s m args below meth c H locs cells slots Q (F0 m pc ls (x :: rest)) := by
  subst h; exact k
end ZX
