section ZF
/-- what a method relies on beside its world: of the tables, of statics; closed under narrowing and moving on -/
abbrev zG : Type := (Nat → Prop) → State → Prop
def zOK (G : zG) : Prop :=
  (∀ (A B : Nat → Prop) (U : State), (∀ q, B q → A q) → G A U → G B U) ∧
  (∀ (A : Nat → Prop) (u U : State), u.WarmedH U.vm → (∀ q, q < u.heap.size → ¬ A q → U.heap[q]? = u.heap[q]?) → G A u → G A U) ∧
  (∀ (A : Nat → Prop) (u U : State), U.vm = u.vm → U.heap = u.heap → G A u → G A U)
/-- a world with some places written anew -/
def zset : va_W → List Nat → va_W → va_W
  | ws, i :: is, q :: qs => zset (ws.set i q) is qs
  | ws, _, _ => ws
theorem zset_get : ∀ (is : List Nat) (qs ws : va_W), is.length = qs.length → ∀ (k : Nat) (q : Nat × va_E), (zset ws is qs)[k]? = some q → (∃ j : Nat, is[j]? = some k ∧ qs[j]? = some q) ∨ (k ∉ is ∧ ws[k]? = some q)
  | [], [], ws, _, k, q, h => Or.inr ⟨List.not_mem_nil, h⟩
  | [], _ :: _, ws, hl, k, q, h => by cases hl
  | _ :: _, [], ws, hl, k, q, h => by cases hl
  | i :: is, q0 :: qs, ws, hl, k, q, h => by
    rcases zset_get is qs (ws.set i q0) (Nat.succ.inj hl) k q h with ⟨j, h1, h2⟩ | ⟨h1, h2⟩
    · exact Or.inl ⟨j + 1, h1, h2⟩
    · by_cases hk : i = k
      · subst hk
        rw [List.getElem?_set] at h2
        by_cases hi : i < ws.length
        · simp only [hi, ↓reduceIte] at h2
          exact Or.inl ⟨0, rfl, h2⟩
        · simp [hi] at h2
      · rw [List.getElem?_set_ne hk] at h2
        refine Or.inr ⟨fun h => ?_, h2⟩
        rcases List.mem_cons.mp h with h | h
        · exact hk h.symm
        · exact h1 h
theorem z_map_at {is : List Nat} {ws w : va_W} (hs : is.map (fun i => ws[i]?) = w.map some) (k : Nat) (q : Nat × va_E) (hq : w[k]? = some q) : ∃ i : Nat, is[k]? = some i ∧ ws[i]? = some q := by
  have h1 : (is.map (fun i => ws[i]?))[k]? = some (some q) := by rw [hs, List.getElem?_map, hq]; rfl
  rw [List.getElem?_map] at h1
  cases hi : is[k]? with
  | none => rw [hi] at h1; cases h1
  | some i => rw [hi] at h1; exact ⟨i, rfl, Option.some.inj h1⟩
theorem z_map_at2 {is : List Nat} {ws w : va_W} (hs : is.map (fun i => ws[i]?) = w.map some) (j k : Nat) (hk : is[j]? = some k) : ∃ q, w[j]? = some q ∧ ws[k]? = some q := by
  have h1 : (w.map some)[j]? = some (ws[k]?) := by rw [← hs, List.getElem?_map, hk]; rfl
  rw [List.getElem?_map] at h1
  cases hi : w[j]? with
  | none => rw [hi] at h1; cases h1
  | some q => rw [hi] at h1; exact ⟨q, rfl, (Option.some.inj h1).symm⟩
theorem z_len {is : List Nat} {ws w : va_W} (hs : is.map (fun i => ws[i]?) = w.map some) : is.length = w.length := by
  have := congrArg List.length hs
  simpa using this
theorem z_adr {w w' : va_W} (h : w'.map (·.1) = w.map (·.1)) (j : Nat) (q : Nat × va_E) (hq : w'[j]? = some q) : ∃ q2, w[j]? = some q2 ∧ q2.1 = q.1 := by
  have h1 : (w.map (·.1))[j]? = some q.1 := by rw [← h, List.getElem?_map, hq]; rfl
  rw [List.getElem?_map] at h1
  cases hi : w[j]? with
  | none => rw [hi] at h1; cases h1
  | some q2 => rw [hi] at h1; exact ⟨q2, rfl, Option.some.inj h1⟩
variable {D : va_G} {cl : List vw_C} {tys : List (ClassId × FieldType)}
theorem zset_P {A : Nat → Prop} {ws w w' : va_W} {H H1 : Heap} (isC : List Nat) (hP : va_P D cl ws H) (hD : va_D A ws) (hC : isC.map (fun i => ws[i]?) = w.map some) (hadr : w'.map (·.1) = w.map (·.1)) (hk : ∀ q : Nat, q < H.size → ¬ va_A w H.size q → H1[q]? = H[q]?) (hP1 : va_P D cl w' H1) : va_P D cl (zset ws isC w') H1 := by
  intro k q hq
  have hlen : isC.length = w'.length := (z_len hC).trans (by have := congrArg List.length hadr; simpa using this.symm)
  rcases zset_get isC w' ws hlen k q hq with ⟨j, h1, h2⟩ | ⟨h1, h2⟩
  · exact hP1 j q h2
  · have hl := (hP k q h2).lt
    refine (hP k q h2).kept (hk q.1 hl fun h => ?_)
    rcases h with ⟨k2, e, h⟩ | h
    · obtain ⟨j, h3, h4⟩ := z_map_at hC k2 (q.1, e) h
      have hij := hD.1 k j q (q.1, e) h2 h4 rfl
      subst hij
      exact h1 (List.mem_of_getElem? h3)
    · omega
theorem zset_D {A : Nat → Prop} {ws w w' : va_W} (isC : List Nat) (hD : va_D A ws) (hC : isC.map (fun i => ws[i]?) = w.map some) (hadr : w'.map (·.1) = w.map (·.1)) : va_D A (zset ws isC w') := by
  have hlen : isC.length = w'.length := (z_len hC).trans (by have := congrArg List.length hadr; simpa using this.symm)
  have key : ∀ (k : Nat) (q : Nat × va_E), (zset ws isC w')[k]? = some q → ∃ q2, ws[k]? = some q2 ∧ q2.1 = q.1 := by
    intro k q hq
    rcases zset_get isC w' ws hlen k q hq with ⟨j, h1, h2⟩ | ⟨h1, h2⟩
    · obtain ⟨q2, h3, h4⟩ := z_adr hadr j q h2
      obtain ⟨q3, h5, h6⟩ := z_map_at2 hC j k h1
      rw [h3] at h5
      cases h5
      exact ⟨q2, h6, h4⟩
    · exact ⟨q, h2, rfl⟩
  refine ⟨fun i j x y hi hj hxy => ?_, fun k q hk => ?_⟩
  · obtain ⟨x2, a1, a2⟩ := key i x hi
    obtain ⟨y2, b1, b2⟩ := key j y hj
    exact hD.1 i j x2 y2 a1 b1 (by rw [a2, b2, hxy])
  · obtain ⟨q2, a1, a2⟩ := key k q hk
    rw [← a2]
    exact hD.2 k q2 a1
/-- a method's start: its arguments, what it relies on, its world -/
def zPre (G : zG) (D : va_G) (cl : List vw_C) (tys : List (ClassId × FieldType)) (as : List Value) (w : va_W) (sz : Nat) : Array Value → State → Prop := fun v U => v = as.toArray ∧ U.heap.size = sz ∧ G (va_A w sz) U ∧ va_P D cl w U.heap ∧ va_K D cl tys U ∧ va_D (fun _ => True) w
/-- a method's end: its answer, its world -/
def zQ (D : va_G) (cl : List vw_C) (tys : List (ClassId × FieldType)) (o : Option Value) (w' : va_W) (A : Nat → Prop) : Array Value → State → Outcome → State → Prop := fun _ st oc t => oc = .returned o ∧ (va_P D cl w' t.heap ∧ va_K D cl tys t ∧ va_D A w') ∧ va_F A st t
/-- the contract of a method that makes nothing new: out of the world w, at the arguments as, it answers o, and leaves the world w' -/
def zM (G : zG) (D : va_G) (cl : List vw_C) (tys : List (ClassId × FieldType)) (l : Launch) (y : MethodName) (ws : List Cond) (rm : Room) (as : List Value) (w : va_W) (o : Option Value) (w' : va_W) : Prop :=
  ∀ sz : Nat, Met l y ws rm (zPre G D cl tys as w sz) (zQ D cl tys o w' (va_A w sz)) 0 0 (va_A w sz)
theorem z_blind {G : zG} (hg : zOK G) {as : List Value} {w : va_W} {sz : Nat} : FrameBlind (zPre G D cl tys as w sz) := by
  intro a U g mk q
  obtain ⟨q0, q1, qG, qP, qK, qD⟩ := q
  exact ⟨q0, q1, hg.2.2 _ U _ rfl rfl qG, qP, va_K.moved (u := U) (U := U.calling g mk a) (Vm.Alike.refl U.vm) qK, qD⟩
theorem zM_of {G : zG} {l : Launch} {y : MethodName} {ws ws' : List Cond} {rm : Room} {as : List Value} {w w' : va_W} {o : Option Value} {cc : ByteArray} {maxL : Nat} {ret : Option FieldType} (hy : plainName y.cls = true) (hw : ws = Cond.code y cc maxL ret :: ws') (hml0 : (lg_sl as).length ≤ maxL)
    (body : ∀ (p : Program) (e : Env) (s : State) (m : MethodId) (below : List Frame) (meth : Method) (c : Code) (A : Nat → Prop) (Q : State → Prop), (∀ t, MQ below (zQ D cl tys o w' A) as.toArray s 0 0 A t → Q t) → p.tables.exec = Jvm.exec → c.code = cc → c.maxLocals = maxL → meth.sig.returnType = ret → (∀ q ∈ ws, q.before as.toArray s = true) → s.vm.findClass y.cls = some m.cls → meth.locks = false → G A s → va_K D cl tys s → va_P D cl w s.heap → va_D A w → (∀ q, s.heap.size ≤ q → A q) → va_S A s.heap s.heap [] → ∀ ls : Array Slot, lv_has ls maxL (lv_args 0 as) → W p l e rm s m as.toArray below meth c s.heap [] 0 0 Q (F0 m 0 ls [])) : zM G D cl tys l y ws rm as w o w' := by
  intro sz
  refine Met.ofW (cc := cc) (maxL := maxL) (ret := ret) hy hw ?_
  intro p e s m args below meth c s₁ B hml hv
  obtain ⟨rfl, hsz, hG, hP, hK, hD0⟩ := hv
  have hts := atoms_spec (ws := ws) B.pre
  have hown := findClass_of_methodNamed B.named
  subst hsz
  have hl := lv_entry as (n := maxL) hml0
  rw [lg_entry_eq]
  exact body p e s m below meth c _ _ (fun _ h => h) B.exec B.bytes hml B.returns hts hown B.notSynchronized hG hK hP hD0.self (fun q h => Or.inr h) va_S.rf _ hl
variable {p : Program} {l : Launch} {e : Env} {R : Room} {s : State} {m : MethodId} {args : Array Value} {below : List Frame} {meth : Method} {c : Code} {H : Heap} {locs : List Loc} {cells slots : Nat} {Q : State → Prop}
theorem z_mono {Q1 : State → Prop} {g : JFrame} (h : ∀ t, Q1 t → Q t) (k : W p l e R s m args below meth c H locs cells slots Q1 g) : W p l e R s m args below meth c H locs cells slots Q g := by
  intro T hT X
  obtain ⟨t, a, b⟩ := k T hT X
  exact ⟨t, a, h t b⟩
theorem z_ends {o : Option Value} {A : Nat → Prop} {w w' : va_W} (hK : va_K D cl tys s) (hP : va_P D cl w H) (hD : va_D A w) (hS : va_S A s.heap H locs) (hw : w = w') : ∀ t : State, t.heap = H → s.WarmedH t.vm → zQ D cl tys o w' A args s (.returned o) t := by
  intro t ht hW
  subst hw
  exact ⟨rfl, ⟨by rw [ht]; exact hP, va_K.moved hW.alike hK, hD⟩, hS.F ht⟩
theorem ziret {cc : ByteArray} {A : Nat → Prop} {w w' : va_W} {v r : Int32} {pc : Nat} {ls : Array Slot} (hend : ∀ t, MQ below (zQ D cl tys (some (.int r)) w' A) args s 0 0 A t → Q t) (hx : p.tables.exec = Jvm.exec) (hb : c.code = cc) (hr : meth.sig.returnType = some .int) (hlk : meth.locks = false) (hK : va_K D cl tys s) (hP : va_P D cl w H) (hD : va_D A w) (hS : va_S A s.heap H locs) (d : decode cc pc = .ok (.ireturn, 1)) (hv : v = r) (hw : w = w') : W p l e R s m args below meth c H locs 0 0 Q (F0 m pc ls [.int v]) := by
  subst hv
  exact z_mono hend (W.iret (v := v) hx hb hr (z_ends hK hP hD hS hw) hS.2.2 d hlk)
theorem zzret {cc : ByteArray} {A : Nat → Prop} {w w' : va_W} {v r : Int32} {pc : Nat} {ls : Array Slot} {ty : FieldType} (hend : ∀ t, MQ below (zQ D cl tys (some (.int r)) w' A) args s 0 0 A t → Q t) (hx : p.tables.exec = Jvm.exec) (hb : c.code = cc) (hr : meth.sig.returnType = some ty) (hlk : meth.locks = false) (hK : va_K D cl tys s) (hP : va_P D cl w H) (hD : va_D A w) (hS : va_S A s.heap H locs) (d : decode cc pc = .ok (.ireturn, 1)) (hn : narrow ty (.int v) = .int v) (hv : v = r) (hw : w = w') : W p l e R s m args below meth c H locs 0 0 Q (F0 m pc ls [.int v]) := by
  subst hv
  exact z_mono hend (W.zret (v := v) hx hb hr hn (z_ends hK hP hD hS hw) hS.2.2 d hlk)
theorem zvret {cc : ByteArray} {A : Nat → Prop} {w w' : va_W} {pc : Nat} {ls : Array Slot} (hend : ∀ t, MQ below (zQ D cl tys none w' A) args s 0 0 A t → Q t) (hx : p.tables.exec = Jvm.exec) (hb : c.code = cc) (hr : meth.sig.returnType = none) (hlk : meth.locks = false) (hK : va_K D cl tys s) (hP : va_P D cl w H) (hD : va_D A w) (hS : va_S A s.heap H locs) (d : decode cc pc = .ok (.return_, 1)) (hw : w = w') : W p l e R s m args below meth c H locs 0 0 Q (F0 m pc ls []) :=
  z_mono hend (W.vret hx hb hr (z_ends hK hP hD hS hw) hS.2.2 d hlk)
/-- behind a call by such a contract -/
theorem z_go {o : Option Value} {w w' ws : va_W} {A : Nat → Prop} {pc : Nat} {ls : Array Slot} {st0 rest : List Value} {a : Array Value} (isC : List Nat)
    (hr : va_Run p l e R s m args below meth c H locs cells slots 0 0 (F0 m pc ls st0) rest (zQ D cl tys o w' (va_A w H.size) a) (va_A w H.size))
    (hP : va_P D cl ws H) (hD : va_D A ws) (hS : va_S A s.heap H locs) (hA : ∀ q, s.heap.size ≤ q → A q)
    (hC : isC.map (fun i => ws[i]?) = w.map some) (hadr : w'.map (·.1) = w.map (·.1))
    (kk : ∀ (H1 : Heap) (locs1 : List Loc), va_P D cl (zset ws isC w') H1 → va_D A (zset ws isC w') → va_S A s.heap H1 locs1 → W p l e R s m args below meth c H1 locs1 cells slots Q (F0 m (pc + 3) ls (o.toList ++ rest))) : W p l e R s m args below meth c H locs cells slots Q (F0 m pc ls st0) := by
  have hF := va_free hD hS hA isC hC
  intro T hT X
  obtain ⟨v, st₀, t, T', L, h0, X', hL, e1, e2, ⟨hv, ⟨qP, -, -⟩, hz, hk⟩, st⟩ := hr T hT X
  cases hv
  rw [h0] at hz hk
  obtain ⟨t2, a1, b1⟩ := kk T'.heap (locs ++ L) (zset_P isC hP hD hC hadr (fun q h1 h2 => by rw [e1]; exact hk q h1 h2) (by rw [e1]; exact qP)) (zset_D isC hD hC hadr)
    ⟨Nat.le_trans hS.1 (by rw [e1]; exact hz), fun q h1 h2 => by rw [e1, hk q (Nat.lt_of_lt_of_le h1 hS.1) (fun z => h2 (hF q z))]; exact hS.2.1 q h1 h2, fun q hq => by
      rcases List.mem_append.mp hq with h | h
      · exact hS.2.2 q h
      · exact hF _ (hL q h)⟩ T' rfl X'
  exact ⟨t2, st t2 a1, b1⟩
theorem z_pre {G : zG} (hg : zOK G) {w ws : va_W} {A : Nat → Prop} (as : List Value) (isC : List Nat) (hG : G A s) (hK : va_K D cl tys s) (hP : va_P D cl ws H) (hD : va_D A ws) (hS : va_S A s.heap H locs) (hA : ∀ q, s.heap.size ≤ q → A q) (hC : isC.map (fun i => ws[i]?) = w.map some) (hn : va_nd isC = true) : ∀ U : State, U.heap = H → s.WarmedH U.vm → zPre G D cl tys as w H.size as.toArray U := by
  intro U hU hW
  have hF := va_free hD hS hA isC hC
  refine ⟨rfl, by rw [hU], hg.1 A _ U hF (hg.2.1 A s U hW (by rw [hU]; exact hS.2.1) hG), ?_, va_K.moved hW.alike hK, (hD.sub isC hn hC).weaken (fun _ _ _ _ => trivial)⟩
  rw [hU]
  intro k q hq
  obtain ⟨i, -, h2⟩ := z_map_at hC k q hq
  exact hP i q h2
variable {cc bytes : ByteArray} {nL maxL n index : Nat} {ret : Option FieldType} {wsM Ts : List Cond} {rm : Room} {own C host : String} {y : MethodName} {b : Addr} {As rest st0 : List Value} {o : Option Value} {w w' ws : va_W} {A : Nat → Prop} {pc : Nat} {ls : Array Slot} {G : zG}
theorem zcV (isC : List Nat) (q0 : Nat) {ci : Nat} {q : vw_C} {fs : List Value} (hg : zOK G) (S : CallFix p m c cc nL s args Ts own) (hM : zM G D cl tys l y wsM rm (.ref b :: As) w o w') (cw : CallW R s args own q.1 index y bytes maxL ret wsM rm 0 0 n)
    (hG : G A s) (hK : va_K D cl tys s) (hP : va_P D cl ws H) (hD : va_D A ws) (hS : va_S A s.heap H locs) (hA : ∀ q, s.heap.size ≤ q → A q) (hC : isC.map (fun i => ws[i]?) = w.map some) (hn : va_nd isC = true) (hadr : w'.map (·.1) = w.map (·.1)) (hc : cl[ci]? = some q) (he : ws[q0]? = some (b, .inr (ci, fs)))
    (hAs : As.length = n) (hsize : ls.size = nL) (hstack : st0 = As.reverse ++ .ref b :: rest) (hW : (rest.map fun v => v.category).sum ≤ 8) (hdg : decode cc pc = .ok (.invokevirtual index, 3)) (hf : cells ≤ R.cells ∧ slots ≤ R.slots)
    (kk : ∀ (H1 : Heap) (locs1 : List Loc), va_P D cl (zset ws isC w') H1 → va_D A (zset ws isC w') → va_S A s.heap H1 locs1 → W p l e R s m args below meth c H1 locs1 cells slots Q (F0 m (pc + 3) ls (o.toList ++ rest))) : W p l e R s m args below meth c H locs cells slots Q (F0 m pc ls st0) :=
  z_go isC (va_runV (As := As) (rest := rest) S (hM H.size) cw ⟨z_blind hg, va_recv hK hP hc he, z_pre hg (.ref b :: As) isC hG hK hP hD hS hA hC hn⟩ rfl hAs hsize hstack (lv_room hW) hdg hf) hP hD hS hA hC hadr kk
theorem zcS (isC : List Nat) (hg : zOK G) (S : CallFix p m c cc nL s args Ts own) (hM : zM G D cl tys l y wsM rm As w o w') (cw : CallB R s args own index y bytes maxL ret wsM rm 0 0 n ∧ (Cond.static y).before args s = true)
    (hG : G A s) (hK : va_K D cl tys s) (hP : va_P D cl ws H) (hD : va_D A ws) (hS : va_S A s.heap H locs) (hA : ∀ q, s.heap.size ≤ q → A q) (hC : isC.map (fun i => ws[i]?) = w.map some) (hn : va_nd isC = true) (hadr : w'.map (·.1) = w.map (·.1))
    (hAs : As.length = n) (hsize : ls.size = nL) (hstack : st0 = As.reverse ++ rest) (hW : (rest.map fun v => v.category).sum ≤ 8) (hdg : decode cc pc = .ok (.invokestatic index, 3)) (hf : cells ≤ R.cells ∧ slots ≤ R.slots)
    (kk : ∀ (H1 : Heap) (locs1 : List Loc), va_P D cl (zset ws isC w') H1 → va_D A (zset ws isC w') → va_S A s.heap H1 locs1 → W p l e R s m args below meth c H1 locs1 cells slots Q (F0 m (pc + 3) ls (o.toList ++ rest))) : W p l e R s m args below meth c H locs cells slots Q (F0 m pc ls st0) :=
  z_go isC (va_runS (As := As) (rest := rest) S (hM H.size) cw ⟨z_blind hg, z_pre hg As isC hG hK hP hD hS hA hC hn⟩ rfl hAs hsize hstack (lv_room hW) hdg hf) hP hD hS hA hC hadr kk
theorem zcSN (isC : List Nat) (hg : zOK G) (S : CallFix p m c cc nL s args Ts own) (hM : zM G D cl tys l y wsM rm As w o w') (cw : va_CN R s args own index y host bytes maxL ret wsM rm 0 0 n ∧ (Cond.static y).before args s = true ∧ True)
    (hG : G A s) (hK : va_K D cl tys s) (hP : va_P D cl ws H) (hD : va_D A ws) (hS : va_S A s.heap H locs) (hA : ∀ q, s.heap.size ≤ q → A q) (hC : isC.map (fun i => ws[i]?) = w.map some) (hn : va_nd isC = true) (hadr : w'.map (·.1) = w.map (·.1))
    (hAs : As.length = n) (hsize : ls.size = nL) (hstack : st0 = As.reverse ++ rest) (hW : (rest.map fun v => v.category).sum ≤ 8) (hdg : decode cc pc = .ok (.invokestatic index, 3)) (hf : cells ≤ R.cells ∧ slots ≤ R.slots)
    (kk : ∀ (H1 : Heap) (locs1 : List Loc), va_P D cl (zset ws isC w') H1 → va_D A (zset ws isC w') → va_S A s.heap H1 locs1 → W p l e R s m args below meth c H1 locs1 cells slots Q (F0 m (pc + 3) ls (o.toList ++ rest))) : W p l e R s m args below meth c H locs cells slots Q (F0 m pc ls st0) :=
  z_go isC (va_runSN (As := As) (rest := rest) S (hM H.size) cw ⟨z_blind hg, z_pre hg As isC hG hK hP hD hS hA hC hn⟩ rfl hAs hsize hstack (lv_room hW) hdg hf) hP hD hS hA hC hadr kk
/-- array places by a number -/
theorem ziald (q0 t0 k : Nat) {a : Nat} {cA : ClassId} {N : Nat} {f : Nat → Int32} (hx : p.tables.exec = Jvm.exec) (hb : c.code = cc) (hK : va_K D cl tys s) (hP : va_P D cl ws H) (ha : ws[q0]? = some (a, .inl (cA, N, .inl f))) (ht : tys[t0]? = some (cA, .int)) (hk : k < N) (hN : N < 2 ^ 31) (hdg : decode cc pc = .ok (.iaload, 1))
    (kk : W p l e R s m args below meth c H locs cells slots Q (F0 m (pc + 1) ls (.int (f k) :: rest))) : W p l e R s m args below meth c H locs cells slots Q (F0 m pc ls (.int (nI k) :: .ref a :: rest)) :=
  va_iald hx hb hK hP q0 t0 ha ht (vp_in_nI hk hN) hdg (by rw [nI_clamp (Nat.lt_trans hk hN)]; exact kk)
theorem ziast (q0 t0 k : Nat) {a : Nat} {cA : ClassId} {N : Nat} {f : Nat → Int32} {x : Int32} (hx : p.tables.exec = Jvm.exec) (hb : c.code = cc) (hK : va_K D cl tys s) (hP : va_P D cl ws H) (hD : va_D A ws) (hS : va_S A s.heap H locs) (ha : ws[q0]? = some (a, .inl (cA, N, .inl f))) (ht : tys[t0]? = some (cA, .int)) (hk : k < N) (hN : N < 2 ^ 31) (hdg : decode cc pc = .ok (.iastore, 1))
    (kk : ∀ (H1 : Heap) (locs1 : List Loc), va_P D cl (ws.set q0 (a, .inl (cA, N, .inl (upd f k x)))) H1 → va_D A (ws.set q0 (a, .inl (cA, N, .inl (upd f k x)))) → va_S A s.heap H1 locs1 → W p l e R s m args below meth c H1 locs1 cells slots Q (F0 m (pc + 1) ls rest)) : W p l e R s m args below meth c H locs cells slots Q (F0 m pc ls (.int x :: .int (nI k) :: .ref a :: rest)) :=
  va_iast hx hb hK hP hD hS q0 t0 ha ht (vp_in_nI hk hN) hdg (by rw [nI_clamp (Nat.lt_trans hk hN)]; exact kk)
end ZF
