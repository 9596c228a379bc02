section ZN
variable {D : va_G} {cl : List vw_C} {tys : List (ClassId × FieldType)}
/-- a method's end, where it makes n new cells -/
def zNQ (D : va_G) (cl : List vw_C) (tys : List (ClassId × FieldType)) (o : List Nat → Option Value) (n : Nat) (w1 w2 : List Nat → va_W) (A : Nat → Prop) : Array Value → State → Outcome → State → Prop := fun _ st oc t => ∃ qs : List Nat, qs.length = n ∧ oc = .returned (o qs) ∧ (va_P D cl (w1 qs ++ w2 qs) t.heap ∧ va_K D cl tys t ∧ va_D A (w1 qs ++ w2 qs)) ∧ va_F A st t
/-- the contract of a method that makes n new cells: what was there becomes w1, the new ones are w2 -/
def zMN (G : zG) (D : va_G) (cl : List vw_C) (tys : List (ClassId × FieldType)) (l : Launch) (y : MethodName) (ws : List Cond) (rm : Room) (as : List Value) (w : va_W) (o : List Nat → Option Value) (n : Nat) (w1 w2 : List Nat → va_W) (mc ms : Nat) : Prop :=
  ∀ sz : Nat, Met l y ws rm (zPre G D cl tys as w sz) (zNQ D cl tys o n w1 w2 (va_A w sz)) mc ms (va_A w sz)
theorem zMN_of {G : zG} {l : Launch} {y : MethodName} {ws ws' : List Cond} {rm : Room} {as : List Value} {w : va_W} {o : List Nat → Option Value} {n : Nat} {w1 w2 : List Nat → va_W} {mc ms : Nat} {cc : ByteArray} {maxL : Nat} {ret : Option FieldType} (hy : plainName y.cls = true) (hw : ws = Cond.code y cc maxL ret :: ws') (hml0 : (lg_sl as).length ≤ maxL)
    (body : ∀ (p : Program) (e : Env) (s : State) (m : MethodId) (below : List Frame) (meth : Method) (c : Code) (A : Nat → Prop) (Q : State → Prop), (∀ t, MQ below (zNQ D cl tys o n w1 w2 A) as.toArray s mc ms A t → Q t) → p.tables.exec = Jvm.exec → c.code = cc → c.maxLocals = maxL → meth.sig.returnType = ret → (∀ q ∈ ws, q.before as.toArray s = true) → s.vm.findClass y.cls = some m.cls → meth.locks = false → G A s → va_K D cl tys s → va_P D cl w s.heap → va_D A w → (∀ q, s.heap.size ≤ q → A q) → va_S A s.heap s.heap [] → ∀ ls : Array Slot, lv_has ls maxL (lv_args 0 as) → W p l e rm s m as.toArray below meth c s.heap [] 0 0 Q (F0 m 0 ls [])) : zMN G D cl tys l y ws rm as w o n w1 w2 mc ms := by
  intro sz
  refine Met.ofW (cc := cc) (maxL := maxL) (ret := ret) hy hw ?_
  intro p e s m args below meth c s₁ B hml hv
  obtain ⟨rfl, hsz, hG, hP, hK, hD0⟩ := hv
  have hts := atoms_spec (ws := ws) B.pre
  have hown := findClass_of_methodNamed B.named
  subst hsz
  have hl := lv_entry as (n := maxL) hml0
  rw [lg_entry_eq]
  exact body p e s m below meth c _ _ (fun _ h => h) B.exec B.bytes hml B.returns hts hown B.notSynchronized hG hK hP hD0.self (fun q h => Or.inr h) va_S.rf _ hl
variable {p : Program} {l : Launch} {e : Env} {R : Room} {s : State} {m : MethodId} {args : Array Value} {below : List Frame} {meth : Method} {c : Code} {H : Heap} {locs : List Loc} {cells slots : Nat} {Q : State → Prop}
variable {o : List Nat → Option Value} {n : Nat} {w1 w2 : List Nat → va_W} {A : Nat → Prop} {w ws : va_W} {cc : ByteArray} {pc : Nat} {ls : Array Slot} {rest : List Value}
theorem zn_ends (qs : List Nat) (hn : qs.length = n) (hK : va_K D cl tys s) (hP : va_P D cl w H) (hD : va_D A w) (hS : va_S A s.heap H locs) (hw : w = w1 qs ++ w2 qs) : ∀ t : State, t.heap = H → s.WarmedH t.vm → zNQ D cl tys o n w1 w2 A args s (.returned (o qs)) t := by
  intro t ht hW
  subst hw
  exact ⟨qs, hn, rfl, ⟨by rw [ht]; exact hP, va_K.moved hW.alike hK, hD⟩, hS.F ht⟩
theorem zniret {v : Int32} (qs : List Nat) (hn : qs.length = n) (hend : ∀ t, MQ below (zNQ D cl tys o n w1 w2 A) args s cells slots A t → Q t) (hx : p.tables.exec = Jvm.exec) (hb : c.code = cc) (hr : meth.sig.returnType = some .int) (hlk : meth.locks = false) (hK : va_K D cl tys s) (hP : va_P D cl w H) (hD : va_D A w) (hS : va_S A s.heap H locs) (d : decode cc pc = .ok (.ireturn, 1)) (hv : o qs = some (.int v)) (hw : w = w1 qs ++ w2 qs) : W p l e R s m args below meth c H locs cells slots Q (F0 m pc ls [.int v]) :=
  z_mono hend (W.iret (v := v) hx hb hr (by rw [← hv]; exact zn_ends qs hn hK hP hD hS hw) hS.2.2 d hlk)
theorem znvret (qs : List Nat) (hn : qs.length = n) (hend : ∀ t, MQ below (zNQ D cl tys o n w1 w2 A) args s cells slots A t → Q t) (hx : p.tables.exec = Jvm.exec) (hb : c.code = cc) (hr : meth.sig.returnType = none) (hlk : meth.locks = false) (hK : va_K D cl tys s) (hP : va_P D cl w H) (hD : va_D A w) (hS : va_S A s.heap H locs) (d : decode cc pc = .ok (.return_, 1)) (hv : o qs = none) (hw : w = w1 qs ++ w2 qs) : W p l e R s m args below meth c H locs cells slots Q (F0 m pc ls []) :=
  z_mono hend (W.vret hx hb hr (by rw [← hv]; exact zn_ends qs hn hK hP hD hS hw) hS.2.2 d hlk)
theorem znaret {a : Nat} {rt : FieldType} (qs : List Nat) (hn : qs.length = n) (hend : ∀ t, MQ below (zNQ D cl tys o n w1 w2 A) args s cells slots A t → Q t) (hx : p.tables.exec = Jvm.exec) (hb : c.code = cc) (hr : meth.sig.returnType = some rt) (hrt : (∃ n, rt = .object n) ∨ ∃ t, rt = .array t) (hlk : meth.locks = false) (hK : va_K D cl tys s) (hP : va_P D cl w H) (hD : va_D A w) (hS : va_S A s.heap H locs) (d : decode cc pc = .ok (.areturn, 1)) (hv : o qs = some (.ref a)) (hw : w = w1 qs ++ w2 qs) : W p l e R s m args below meth c H locs cells slots Q (F0 m pc ls [.ref a]) :=
  z_mono hend (W.aret (v := .ref a) hx hb hr hrt (Or.inr ⟨a, rfl⟩) (by rw [← hv]; exact zn_ends qs hn hK hP hD hS hw) hS.2.2 d hlk)
/-- a reference is answered, nothing new is made -/
theorem zaret {w' : va_W} {a r : Nat} {rt : FieldType} (hend : ∀ t, MQ below (zQ D cl tys (some (.ref r)) w' A) args s 0 0 A t → Q t) (hx : p.tables.exec = Jvm.exec) (hb : c.code = cc) (hr : meth.sig.returnType = some rt) (hrt : (∃ n, rt = .object n) ∨ ∃ t, rt = .array t) (hlk : meth.locks = false) (hK : va_K D cl tys s) (hP : va_P D cl w H) (hD : va_D A w) (hS : va_S A s.heap H locs) (d : decode cc pc = .ok (.areturn, 1)) (hv : a = r) (hw : w = w') : W p l e R s m args below meth c H locs 0 0 Q (F0 m pc ls [.ref a]) := by
  subst hv
  exact z_mono hend (W.aret (v := .ref a) hx hb hr hrt (Or.inr ⟨a, rfl⟩) (z_ends hK hP hD hS hw) hS.2.2 d hlk)
theorem va_P_left {wa wb : va_W} (h : va_P D cl (wa ++ wb) H) : va_P D cl wa H := fun k q hq => h k q (by rw [List.getElem?_append_left (List.getElem?_eq_some_iff.mp hq).1]; exact hq)
theorem va_P_right {wa wb : va_W} (h : va_P D cl (wa ++ wb) H) : va_P D cl wb H := fun k q hq => h (wa.length + k) q (by rw [List.getElem?_append_right (Nat.le_add_right _ _), Nat.add_sub_cancel_left]; exact hq)
theorem va_D_right {wa wb : va_W} (h : va_D A (wa ++ wb)) : va_D A wb := by
  have e : ∀ (k : Nat) (q : Nat × va_E), wb[k]? = some q → (wa ++ wb)[wa.length + k]? = some q := fun k q hq => by rw [List.getElem?_append_right (Nat.le_add_right _ _), Nat.add_sub_cancel_left]; exact hq
  exact ⟨fun i j x y hi hj hxy => by have := h.1 _ _ x y (e i x hi) (e j y hj) hxy; omega, fun k q hq => h.2 _ q (e k q hq)⟩
/-- behind a call that makes n new cells -/
theorem zn_go {mc ms : Nat} {st0 : List Value} {a : Array Value} (isC : List Nat)
    (hr : va_Run p l e R s m args below meth c H locs cells slots mc ms (F0 m pc ls st0) rest (zNQ D cl tys o n w1 w2 (va_A w H.size) a) (va_A w H.size))
    (hP : va_P D cl ws H) (hD : va_D A ws) (hS : va_S A s.heap H locs) (hA : ∀ q, s.heap.size ≤ q → A q)
    (hC : isC.map (fun i => ws[i]?) = w.map some) (hadr : ∀ qs, qs.length = n → (w1 qs).map (·.1) = w.map (·.1))
    (kk : ∀ (qs : List Nat) (H1 : Heap) (locs1 : List Loc), qs.length = n → va_P D cl (zset ws isC (w1 qs) ++ w2 qs) H1 → va_D A (zset ws isC (w1 qs) ++ w2 qs) → va_S A s.heap H1 locs1 → W p l e R s m args below meth c H1 locs1 (cells + mc) (slots + ms) Q (F0 m (pc + 3) ls ((o qs).toList ++ rest))) : W p l e R s m args below meth c H locs cells slots Q (F0 m pc ls st0) := by
  have hF := va_free hD hS hA isC hC
  intro T hT X
  obtain ⟨v, st₀, t, T', L, h0, X', hL, e1, e2, ⟨qs, hqn, hv, ⟨qP, -, qD⟩, hz, hk⟩, st⟩ := hr T hT X
  have hv2 : v = o qs := Outcome.returned.inj hv
  subst hv2
  rw [h0] at hz hk
  have hk2 : ∀ q : Nat, q < H.size → ¬ va_A w H.size q → T'.heap[q]? = H[q]? := fun q h1 h2 => by rw [e1]; exact hk q h1 h2
  have hP1 := zset_P isC hP hD hC (hadr qs hqn) hk2 (H1 := T'.heap) (by rw [e1]; exact va_P_left qP)
  have hP2 : va_P D cl (w2 qs) T'.heap := by rw [e1]; exact va_P_right qP
  have hD1 := zset_D isC hD hC (hadr qs hqn)
  have hD2 : va_D A (w2 qs) := (va_D_right qD).weaken (fun _ q _ h => hF q.1 h)
  have hlen : isC.length = (w1 qs).length := (z_len hC).trans (by have := congrArg List.length (hadr qs hqn); simpa using this.symm)
  have hcross : ∀ (i j : Nat) (x y : Nat × va_E), (zset ws isC (w1 qs))[i]? = some x → (w2 qs)[j]? = some y → x.1 ≠ y.1 := by
    intro i j x y hi hj hxy
    have hx : ∃ q2, ws[i]? = some q2 ∧ q2.1 = x.1 := by
      rcases zset_get isC (w1 qs) ws hlen i x hi with ⟨j2, h1, h2⟩ | ⟨h1, h2⟩
      · obtain ⟨q2, h3, h4⟩ := z_adr (hadr qs hqn) j2 x h2
        obtain ⟨q3, h5, h6⟩ := z_map_at2 hC j2 i h1
        rw [h3] at h5
        cases h5
        exact ⟨q2, h6, h4⟩
      · exact ⟨x, h2, rfl⟩
    obtain ⟨q2, g1, g2⟩ := hx
    have hlt := (hP i q2 g1).lt
    have hy2 : (w1 qs ++ w2 qs)[(w1 qs).length + j]? = some y := by rw [List.getElem?_append_right (Nat.le_add_right _ _), Nat.add_sub_cancel_left]; exact hj
    rcases qD.2 _ y hy2 with ⟨k2, e3, h⟩ | h
    · have h9 : ((w1 qs).map (·.1))[k2]? = some y.1 := by rw [hadr qs hqn, List.getElem?_map, h]; rfl
      rw [List.getElem?_map] at h9
      cases h8 : (w1 qs)[k2]? with
      | none => rw [h8] at h9; cases h9
      | some z =>
        rw [h8] at h9
        have hkl := (List.getElem?_eq_some_iff.mp h8).1
        have := qD.1 _ _ z y (by rw [List.getElem?_append_left hkl]; exact h8) hy2 (Option.some.inj h9)
        omega
    · rw [← hxy, ← g2] at h
      omega
  obtain ⟨t2, a1, b1⟩ := kk qs T'.heap (locs ++ L) hqn (va_P.app hP1 hP2) (va_D.app hD1 hD2 hcross)
    ⟨Nat.le_trans hS.1 (by rw [e1]; exact hz), fun q h1 h2 => by rw [hk2 q (Nat.lt_of_lt_of_le h1 hS.1) (fun z => h2 (hF q z))]; exact hS.2.1 q h1 h2, fun q hq => by
      rcases List.mem_append.mp hq with h | h
      · exact hS.2.2 q h
      · exact hF _ (hL q h)⟩ T' rfl X'
  exact ⟨t2, st t2 a1, b1⟩
variable {bytes : ByteArray} {nL maxL k index mc ms : Nat} {ret : Option FieldType} {wsM Ts : List Cond} {rm : Room} {own C : String} {y : MethodName} {b : Addr} {As st0 : List Value} {G : zG}
theorem zcnV (isC : List Nat) (q0 : Nat) {ci : Nat} {q : vw_C} {fs : List Value} (hg : zOK G) (S : CallFix p m c cc nL s args Ts own) (hM : zMN G D cl tys l y wsM rm (.ref b :: As) w o n w1 w2 mc ms) (cw : CallW R s args own q.1 index y bytes maxL ret wsM rm mc ms k)
    (hG : G A s) (hK : va_K D cl tys s) (hP : va_P D cl ws H) (hD : va_D A ws) (hS : va_S A s.heap H locs) (hA : ∀ q, s.heap.size ≤ q → A q) (hC : isC.map (fun i => ws[i]?) = w.map some) (hn : va_nd isC = true) (hadr : ∀ qs, qs.length = n → (w1 qs).map (·.1) = w.map (·.1)) (hc : cl[ci]? = some q) (he : ws[q0]? = some (b, .inr (ci, fs)))
    (hAs : As.length = k) (hsize : ls.size = nL) (hstack : st0 = As.reverse ++ .ref b :: rest) (hW : (rest.map fun v => v.category).sum ≤ 8) (hdg : decode cc pc = .ok (.invokevirtual index, 3)) (hf : cells + mc ≤ R.cells ∧ slots + ms ≤ R.slots)
    (kk : ∀ (qs : List Nat) (H1 : Heap) (locs1 : List Loc), qs.length = n → va_P D cl (zset ws isC (w1 qs) ++ w2 qs) H1 → va_D A (zset ws isC (w1 qs) ++ w2 qs) → va_S A s.heap H1 locs1 → W p l e R s m args below meth c H1 locs1 (cells + mc) (slots + ms) Q (F0 m (pc + 3) ls ((o qs).toList ++ rest))) : W p l e R s m args below meth c H locs cells slots Q (F0 m pc ls st0) :=
  zn_go isC (va_runV (As := As) (rest := rest) S (hM H.size) cw ⟨z_blind hg, va_recv hK hP hc he, z_pre hg (.ref b :: As) isC hG hK hP hD hS hA hC hn⟩ rfl hAs hsize hstack (lv_room hW) hdg hf) hP hD hS hA hC hadr kk
theorem zcnS (isC : List Nat) (hg : zOK G) (S : CallFix p m c cc nL s args Ts own) (hM : zMN G D cl tys l y wsM rm As w o n w1 w2 mc ms) (cw : CallB R s args own index y bytes maxL ret wsM rm mc ms k ∧ (Cond.static y).before args s = true)
    (hG : G A s) (hK : va_K D cl tys s) (hP : va_P D cl ws H) (hD : va_D A ws) (hS : va_S A s.heap H locs) (hA : ∀ q, s.heap.size ≤ q → A q) (hC : isC.map (fun i => ws[i]?) = w.map some) (hn : va_nd isC = true) (hadr : ∀ qs, qs.length = n → (w1 qs).map (·.1) = w.map (·.1))
    (hAs : As.length = k) (hsize : ls.size = nL) (hstack : st0 = As.reverse ++ rest) (hW : (rest.map fun v => v.category).sum ≤ 8) (hdg : decode cc pc = .ok (.invokestatic index, 3)) (hf : cells + mc ≤ R.cells ∧ slots + ms ≤ R.slots)
    (kk : ∀ (qs : List Nat) (H1 : Heap) (locs1 : List Loc), qs.length = n → va_P D cl (zset ws isC (w1 qs) ++ w2 qs) H1 → va_D A (zset ws isC (w1 qs) ++ w2 qs) → va_S A s.heap H1 locs1 → W p l e R s m args below meth c H1 locs1 (cells + mc) (slots + ms) Q (F0 m (pc + 3) ls ((o qs).toList ++ rest))) : W p l e R s m args below meth c H locs cells slots Q (F0 m pc ls st0) :=
  zn_go isC (va_runS (As := As) (rest := rest) S (hM H.size) cw ⟨z_blind hg, z_pre hg As isC hG hK hP hD hS hA hC hn⟩ rfl hAs hsize hstack (lv_room hW) hdg hf) hP hD hS hA hC hadr kk
/-- a constructor that makes n new cells -/
theorem zcnI (isC : List Nat) (hg : zOK G) (S : CallFix p m c cc nL s args Ts own) (hM : zMN G D cl tys l y wsM rm (.ref b :: As) w o n w1 w2 mc ms) (cw : CallB R s args own index y bytes maxL none wsM rm mc ms k ∧ y.name = "<init>" ∧ (Cond.instanceMethod y).before args s = true)
    (hG : G A s) (hK : va_K D cl tys s) (hP : va_P D cl ws H) (hD : va_D A ws) (hS : va_S A s.heap H locs) (hA : ∀ q, s.heap.size ≤ q → A q) (hC : isC.map (fun i => ws[i]?) = w.map some) (hn : va_nd isC = true) (hadr : ∀ qs, qs.length = n → (w1 qs).map (·.1) = w.map (·.1))
    (hAs : As.length = k) (hsize : ls.size = nL) (hstack : st0 = As.reverse ++ .ref b :: rest) (hW : (rest.map fun v => v.category).sum ≤ 8) (hdg : decode cc pc = .ok (.invokespecial index, 3)) (hf : cells + mc ≤ R.cells ∧ slots + ms ≤ R.slots)
    (kk : ∀ (qs : List Nat) (H1 : Heap) (locs1 : List Loc), qs.length = n → va_P D cl (zset ws isC (w1 qs) ++ w2 qs) H1 → va_D A (zset ws isC (w1 qs) ++ w2 qs) → va_S A s.heap H1 locs1 → W p l e R s m args below meth c H1 locs1 (cells + mc) (slots + ms) Q (F0 m (pc + 3) ls ((o qs).toList ++ rest))) : W p l e R s m args below meth c H locs cells slots Q (F0 m pc ls st0) :=
  zn_go isC (va_runI (As := As) (rest := rest) S (hM H.size) cw ⟨z_blind hg, z_pre hg (.ref b :: As) isC hG hK hP hD hS hA hC hn⟩ rfl hAs hsize hstack (lv_room hW) hdg hf) hP hD hS hA hC hadr kk
/-- a new array, of the class that the arrays of its kind have -/
theorem znewa {atype : ArrayType} {ty : FieldType} {a0 : vp_A} {N' t0 : Nat} {cA0 : ClassId} {x : Int32} (hx : p.tables.exec = Jvm.exec) (hb : c.code = cc) (harr : (Cond.arrayClass (newarray.typeOf atype)).before args s = true) (hty : newarray.typeOf atype = ty) (ht : tys[t0]? = some (cA0, ty)) (hob : ∀ C : String, ty ≠ .object C) (hK : va_K D cl tys s) (hP : va_P D cl ws H) (hD : va_D A ws) (hS : va_S A s.heap H locs) (hA : ∀ q, s.heap.size ≤ q → A q)
    (ha : ∀ cA : ClassId, vp_cell cA a0 = arrV cA N' (fun _ => defaultValue ty)) (hn : ¬ x < 0) (hN : x.toNatClampNeg = N') (hbytes : N' * componentBytes ty ≤ 536870912) (hcells : cells + 1 ≤ R.cells) (hslots : slots + N' ≤ R.slots) (hdg : decode cc pc = .ok (.newarray atype, 2))
    (kk : ∀ (q : Nat) (H1 : Heap), va_P D cl (ws ++ [(q, .inl (cA0, a0))]) H1 → va_D A (ws ++ [(q, .inl (cA0, a0))]) → va_S A s.heap H1 locs →
      W p l e R s m args below meth c H1 locs (cells + 1) (slots + N') Q (F0 m (pc + 2) ls (.ref q :: rest))) : W p l e R s m args below meth c H locs cells slots Q (F0 m pc ls (.int x :: rest)) := by
  refine va_newa hx hb harr hty hK hP hD hS hA ha hn hN hbytes hcells hslots hdg (fun q cA H1 hK1 hP1 hD1 hS1 => ?_)
  have h1 := (hK1.2 tys.length (cA, ty) (by simp)).2
  have h2 := (hK.2 t0 _ ht).2
  have h3 : cA = cA0 := by
    cases ty with
    | object C => exact absurd rfl (hob C)
    | _ => exact Option.some.inj ((show s.vm.findClass _ = some cA from h1).symm.trans (show s.vm.findClass _ = some cA0 from h2))
  subst h3
  exact kk q H1 hP1 hD1 hS1
end ZN
