section ZI7
variable {D : va_G} {cl : List vw_C} {tys : List (ClassId × FieldType)}
variable {p : Program} {l : Launch} {e : Env} {R : Room} {s : State} {m : MethodId} {args : Array Value} {below : List Frame} {meth : Method} {c : Code} {H : Heap} {locs : List Loc} {cells slots : Nat} {Q : State → Prop}
variable {A : Nat → Prop} {w w' wx : va_W} {X : Option String} {o : Option Value} {mc ms : Nat} {cc : ByteArray} {pc : Nat} {ls : Array Slot} {rest : List Value}
theorem zI_free (hD : va_D A w) (hS : va_S A s.heap H locs) (hA : ∀ q, s.heap.size ≤ q → A q) : ∀ q, va_A w H.size q → A q := by
  intro q h
  rcases h with ⟨k, e, h⟩ | h
  · exact hD.2 k (q, e) h
  · exact hA q (Nat.le_trans hS.1 h)
theorem z_preI {G : zG} (hg : zOK G) (as : List Value) (hG : G A s) (hK : va_K D cl tys s) (hP : va_P D cl w H) (hD : va_D A w) (hS : va_S A s.heap H locs) (hA : ∀ q, s.heap.size ≤ q → A q) : ∀ U : State, U.heap = H → s.WarmedH U.vm → zPre G D cl tys as w H.size as.toArray U := by
  intro U hU hW
  have hF := zI_free hD hS hA
  exact ⟨rfl, by rw [hU], hg.1 A _ U hF (hg.2.1 A s U hW (by rw [hU]; exact hS.2.1) hG), by rw [hU]; exact hP, va_K.moved hW.alike hK, hD.weaken (fun _ _ _ _ => trivial)⟩
/-- a call on the whole world -/
theorem z_goI {st0 : List Value} {a : Array Value}
    (hr : va_Run p l e R s m args below meth c H locs cells slots 0 0 (F0 m pc ls st0) rest (zQ D cl tys o w' (va_A w H.size) a) (va_A w H.size))
    (hD : va_D A w) (hS : va_S A s.heap H locs) (hA : ∀ q, s.heap.size ≤ q → A q)
    (kk : ∀ (H1 : Heap) (locs1 : List Loc), va_P D cl w' H1 → va_D A w' → va_S A s.heap H1 locs1 → W p l e R s m args below meth c H1 locs1 cells slots Q (F0 m (pc + 3) ls (o.toList ++ rest))) : W p l e R s m args below meth c H locs cells slots Q (F0 m pc ls st0) := by
  have hF := zI_free hD hS hA
  intro T hT X
  obtain ⟨v, st₀, t, T', L, h0, X', hL, e1, e2, ⟨hv, ⟨qP, -, qD⟩, hz, hk⟩, st⟩ := hr T hT X
  cases hv
  rw [h0] at hz hk
  obtain ⟨t2, a1, b1⟩ := kk T'.heap (locs ++ L) (by rw [e1]; exact qP) (qD.weaken (fun _ q _ h => hF q.1 h))
    ⟨Nat.le_trans hS.1 (by rw [e1]; exact hz), fun q h1 h2 => by rw [e1, hk q (Nat.lt_of_lt_of_le h1 hS.1) (fun z => h2 (hF q z))]; exact hS.2.1 q h1 h2, fun q hq => by
      rcases List.mem_append.mp hq with h | h
      · exact hS.2.2 q h
      · exact hF _ (hL q h)⟩ T' rfl X'
  exact ⟨t2, st t2 a1, b1⟩
variable {bytes : ByteArray} {nL maxL n index : Nat} {ret : Option FieldType} {wsM Ts : List Cond} {rm : Room} {own : String} {y : MethodName} {b : Addr} {As st0 : List Value} {G : zG}
theorem zcVI (q0 : Nat) {ci : Nat} {q : vw_C} {fs : List Value} (hg : zOK G) (S : CallFix p m c cc nL s args Ts own) (hM : zM G D cl tys l y wsM rm (.ref b :: As) w o w') (cw : CallW R s args own q.1 index y bytes maxL ret wsM rm 0 0 n)
    (hG : G A s) (hK : va_K D cl tys s) (hP : va_P D cl w H) (hD : va_D A w) (hS : va_S A s.heap H locs) (hA : ∀ q, s.heap.size ≤ q → A q) (hc : cl[ci]? = some q) (he : w[q0]? = some (b, .inr (ci, fs)))
    (hAs : As.length = n) (hsize : ls.size = nL) (hstack : st0 = As.reverse ++ .ref b :: rest) (hW : (rest.map fun v => v.category).sum ≤ 8) (hdg : decode cc pc = .ok (.invokevirtual index, 3)) (hf : cells ≤ R.cells ∧ slots ≤ R.slots)
    (kk : ∀ (H1 : Heap) (locs1 : List Loc), va_P D cl w' H1 → va_D A w' → va_S A s.heap H1 locs1 → W p l e R s m args below meth c H1 locs1 cells slots Q (F0 m (pc + 3) ls (o.toList ++ rest))) : W p l e R s m args below meth c H locs cells slots Q (F0 m pc ls st0) :=
  z_goI (va_runV (As := As) (rest := rest) S (hM H.size) cw ⟨z_blind hg, va_recv hK hP hc he, z_preI hg (.ref b :: As) hG hK hP hD hS hA⟩ rfl hAs hsize hstack (lv_room hW) hdg hf) hD hS hA kk
/-- a call on the whole world of a method that throws -/
theorem zx_goI {Xc : Option String} {oc : Option Value} {wc' wcx : va_W} {mcc msc : Nat} {a : Array Value}
    (hr : vx_Run p l e R s m args below meth c H locs cells slots mcc msc (F0 m pc ls st0) rest (zXQ D cl tys Xc oc wc' (va_A w H.size) a) (zXC D cl tys Xc wcx (va_A w H.size)) (va_A w H.size))
    (hend : ∀ t, vx_MQ below (zXQ D cl tys X o w' A) (zXC D cl tys X wx A) args s mc ms A t → Q t) (hlk : meth.locks = false) (htab : ∀ x ∈ c.exceptionTable.toList, False)
    (hK : va_K D cl tys s) (hD : va_D A w) (hS : va_S A s.heap H locs) (hA : ∀ q, s.heap.size ≤ q → A q) (hcm : cells + mcc ≤ mc) (hsm : slots + msc ≤ ms)
    (hprop : ∀ E, Xc = some E → X = some E ∧ wcx = wx) (hne : Xc = none → False) : W p l e R s m args below meth c H locs cells slots Q (F0 m pc ls st0) := by
  have hF := zI_free hD hS hA
  intro T hT XS
  rcases hr T hT XS with ⟨v, st₀, t, T', L, h0, X', hL, e1, e2, ⟨hX, hv, ⟨qP, -, -⟩, hz, hk⟩, st⟩ | ⟨q9, st₀, t, T', L, E, ce, h0, X', hL, e1, e2, ⟨hX, ⟨qP, -, qD⟩, hz, hk⟩, hce, hcv, hcl, st⟩
  · exact (hne hX).elim
  · rw [h0] at hz hk
    obtain ⟨hXE, hwx⟩ := hprop E hX
    have hP1 : va_P D cl wcx T'.heap := by rw [e1]; exact qP
    have hD1 : va_D A wcx := qD.weaken (fun _ q _ h => hF q.1 h)
    have hS1 : va_S A s.heap T'.heap (locs ++ L) := ⟨Nat.le_trans hS.1 (by rw [e1]; exact hz), fun q h1 h2 => by rw [e1, hk q (Nat.lt_of_lt_of_le h1 hS.1) (fun z => h2 (hF q z))]; exact hS.2.1 q h1 h2, fun q hq => by
        rcases List.mem_append.mp hq with h | h
        · exact hS.2.2 q h
        · exact hF _ (hL q h)⟩
    have k := vx_out (m := m) (H := T'.heap) (q := q9) (locs := locs ++ L) (p := p) (l := l) (e := e) (R := R) (args := args) (below := below) (pc := pc) (ls := ls) (rest := rest) (cells := cells + mcc) (slots := slots + msc) (Qc := zXQ D cl tys X o w' A) (XC := zXC D cl tys X wx A) (mc := mc) (ms := ms) (free := A) (fun x hx => (htab x hx).elim) hlk (by rw [e1]; exact hce) hcv hcl
      (fun t9 ht9 hvm => zxthrown hXE hK hP1 hD1 hS1 hwx t9 hvm (by rw [ht9]; exact Nat.le_refl _) (fun q _ => by rw [ht9])) hS1.2.2 hcm hsm
    obtain ⟨t2, a1, b1⟩ := k T' rfl X'
    exact ⟨t2, st.trans a1, hend t2 b1⟩
theorem zxcVI (q0 : Nat) {ci : Nat} {q : vw_C} {fs : List Value} {E : String} {oc : Option Value} {wc' wcx : va_W} {mcc msc : Nat} (hg : zOK G) (S : CallFix p m c cc nL s args Ts own) (hM : zMX G D cl tys l y wsM rm (.ref b :: As) w (some E) oc wc' wcx mcc msc) (cw : CallW R s args own q.1 index y bytes maxL ret wsM rm mcc msc n)
    (hend : ∀ t, vx_MQ below (zXQ D cl tys X o w' A) (zXC D cl tys X wx A) args s mc ms A t → Q t) (hlk : meth.locks = false) (htab : ∀ x ∈ c.exceptionTable.toList, False)
    (hG : G A s) (hK : va_K D cl tys s) (hP : va_P D cl w H) (hD : va_D A w) (hS : va_S A s.heap H locs) (hA : ∀ q, s.heap.size ≤ q → A q) (hc : cl[ci]? = some q) (he : w[q0]? = some (b, .inr (ci, fs)))
    (hAs : As.length = n) (hsize : ls.size = nL) (hstack : st0 = As.reverse ++ .ref b :: rest) (hW : (rest.map fun v => v.category).sum ≤ 8) (hdg : decode cc pc = .ok (.invokevirtual index, 3)) (hf : cells + mcc ≤ R.cells ∧ slots + msc ≤ R.slots) (hcm : cells + mcc ≤ mc) (hsm : slots + msc ≤ ms)
    (hX : X = some E) (hwx : wcx = wx) : W p l e R s m args below meth c H locs cells slots Q (F0 m pc ls st0) :=
  zx_goI (vx_runV (As := As) (rest := rest) S (hM H.size) cw ⟨z_blind hg, va_recv hK hP hc he, z_preI hg (.ref b :: As) hG hK hP hD hS hA⟩ rfl hAs hsize hstack (lv_room hW) hdg hf) hend hlk htab hK hD hS hA hcm hsm (fun E2 h => by cases h; exact ⟨hX, hwx⟩) (fun h => by cases h)
end ZI7
