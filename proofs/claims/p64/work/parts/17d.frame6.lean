/-- tables of digits -/
def zdg1 (j : Nat) : Int32 := nI (48 + j % 10)
def zdg2 (j : Nat) : Int32 := nI (48 + j / 10)
/-- what the JDK's text classes rely on -/
def zJF (A : Nat → Prop) (U : State) : Prop :=
  va_Z "java/lang/String" "COMPACT_STRINGS" "Z" (.int 1) A U U.heap ∧ va_Zq RJ3 "SIOOBE_FORMATTER" "Ljava/util/function/BiFunction;" A U U.heap ∧
  (∃ t : Nat, va_Z RJ6 "DigitOnes" "[B" (.ref t) A U U.heap ∧ va_T .byte t 100 (fun j => .int (zdg1 j)) A U U.heap) ∧ ∃ t : Nat, va_Z RJ6 "DigitTens" "[B" (.ref t) A U U.heap ∧ va_T .byte t 100 (fun j => .int (zdg2 j)) A U U.heap
/-- the letters of the orders, a text constant -/
def zltr (j : Nat) : Int32 := ([99, 120, 104, 114, 100, 117, 108, 103, 121, 102, 116, 112, 113, 107] : List Int32).getD j 0
def zLit (ak av : Nat) (A : Nat → Prop) (U : State) : Prop :=
  vk_R RX1 47 "cxhrdulgyftpqk" ak U ∧ va_O RJ0 ak A U U.heap ∧ va_OF "java/lang/String" "coder" "B" (.int 0) ak A U U.heap ∧ va_OF "java/lang/String" "value" "[B" (.ref av) ak A U U.heap ∧ va_T .byte av 14 (fun j => .int (zltr j)) A U U.heap
def zGJ (G : zG) : Prop := zGN G ∧ ∀ (A : Nat → Prop) (U : State), G A U → zJF A U
def zGA (G : zG) : Prop := zGT G ∧ ∀ (A : Nat → Prop) (U : State), G A U → zJF A U
theorem zGA.J {G : zG} (h : zGA G) : zGJ G := ⟨h.1.1, h.2⟩
section ZJ
variable {D : va_G} {cl : List vw_C} {tys : List (ClassId × FieldType)}
variable {p : Program} {l : Launch} {e : Env} {R : Room} {s : State} {m : MethodId} {args : Array Value} {below : List Frame} {meth : Method} {c : Code} {H : Heap} {locs : List Loc} {cells slots : Nat} {Q : State → Prop}
variable {cc bytes : ByteArray} {nL maxL k index : Nat} {ret : Option FieldType} {wsM Ts : List Cond} {rm : Room} {own C owner host : String} {x y : MethodName} {b : Addr} {As rest st0 : List Value} {w w' ws : va_W} {A : Nat → Prop} {pc : Nat} {ls : Array Slot} {G : zG}
/-- an inherited method -/
theorem zcU {o : Option Value} (isC : List Nat) (q0 : Nat) {ci : Nat} {q : vw_C} {fs : List Value} (hg : zOK G) (S : CallFix p m c cc nL s args Ts own) (hM : zM G D cl tys l y wsM rm (.ref b :: As) w o w') (cw : va_CU R s args own q.1 owner index x y bytes maxL ret wsM rm 0 0 k)
    (hG : G A s) (hK : va_K D cl tys s) (hP : va_P D cl ws H) (hD : va_D A ws) (hS : va_S A s.heap H locs) (hA : ∀ q, s.heap.size ≤ q → A q) (hC : isC.map (fun i => ws[i]?) = w.map some) (hn : va_nd isC = true) (hadr : w'.map (·.1) = w.map (·.1)) (hc : cl[ci]? = some q) (he : ws[q0]? = some (b, .inr (ci, fs)))
    (hAs : As.length = k) (hsize : ls.size = nL) (hstack : st0 = As.reverse ++ .ref b :: rest) (hW : (rest.map fun v => v.category).sum ≤ 8) (hdg : decode cc pc = .ok (.invokevirtual index, 3)) (hf : cells ≤ R.cells ∧ slots ≤ R.slots)
    (kk : ∀ (H1 : Heap) (locs1 : List Loc), va_P D cl (zset ws isC w') H1 → va_D A (zset ws isC w') → va_S A s.heap H1 locs1 → W p l e R s m args below meth c H1 locs1 cells slots Q (F0 m (pc + 3) ls (o.toList ++ rest))) : W p l e R s m args below meth c H locs cells slots Q (F0 m pc ls st0) :=
  z_go isC (va_runU (As := As) (rest := rest) S (hM H.size) cw ⟨z_blind hg, va_recv hK hP hc he, z_pre hg (.ref b :: As) isC hG hK hP hD hS hA hC hn⟩ rfl hAs hsize hstack (lv_room hW) hdg hf) hP hD hS hA hC hadr kk
/-- a method of a text constant -/
theorem zcVK {o : Option Value} (isC : List Nat) (hg : zOK G) (S : CallFix p m c cc nL s args Ts own) (hM : zM G D cl tys l y wsM rm (.ref b :: As) w o w') (cw : CallW R s args own C index y bytes maxL ret wsM rm 0 0 k) (hO : va_O C b A s s.heap)
    (hG : G A s) (hK : va_K D cl tys s) (hP : va_P D cl ws H) (hD : va_D A ws) (hS : va_S A s.heap H locs) (hA : ∀ q, s.heap.size ≤ q → A q) (hC : isC.map (fun i => ws[i]?) = w.map some) (hn : va_nd isC = true) (hadr : w'.map (·.1) = w.map (·.1))
    (hAs : As.length = k) (hsize : ls.size = nL) (hstack : st0 = As.reverse ++ .ref b :: rest) (hW : (rest.map fun v => v.category).sum ≤ 8) (hdg : decode cc pc = .ok (.invokevirtual index, 3)) (hf : cells ≤ R.cells ∧ slots ≤ R.slots)
    (kk : ∀ (H1 : Heap) (locs1 : List Loc), va_P D cl (zset ws isC w') H1 → va_D A (zset ws isC w') → va_S A s.heap H1 locs1 → W p l e R s m args below meth c H1 locs1 cells slots Q (F0 m (pc + 3) ls (o.toList ++ rest))) : W p l e R s m args below meth c H locs cells slots Q (F0 m pc ls st0) := by
  have hr : ∃ cell : Cell, H[b]? = some cell ∧ cell.vm.isStatics = false ∧ s.vm.findClass C = some cell.cls := by
    obtain ⟨cell, h1, h2, h3, -⟩ := hO.kept hS.2.1
    exact ⟨cell, h1, h2, h3⟩
  exact z_go isC (va_runV (As := As) (rest := rest) S (hM H.size) cw ⟨z_blind hg, hr, z_pre hg (.ref b :: As) isC hG hK hP hD hS hA hC hn⟩ rfl hAs hsize hstack (lv_room hW) hdg hf) hP hD hS hA hC hadr kk
/-- super.method() -/
theorem zcSU {o : Option Value} (isC : List Nat) (q0 : Nat) {ci : Nat} {q : vw_C} {fs : List Value} (hg : zOK G) (S : CallFix p m c cc nL s args Ts own) (hM : zM G D cl tys l y wsM rm (.ref b :: As) w o w') (cw : va_CS R s args own index y bytes maxL ret wsM rm 0 0 k)
    (hG : G A s) (hK : va_K D cl tys s) (hP : va_P D cl ws H) (hD : va_D A ws) (hS : va_S A s.heap H locs) (hA : ∀ q, s.heap.size ≤ q → A q) (hC : isC.map (fun i => ws[i]?) = w.map some) (hn : va_nd isC = true) (hadr : w'.map (·.1) = w.map (·.1)) (hc : cl[ci]? = some q) (he : ws[q0]? = some (b, .inr (ci, fs)))
    (hAs : As.length = k) (hsize : ls.size = nL) (hstack : st0 = As.reverse ++ .ref b :: rest) (hW : (rest.map fun v => v.category).sum ≤ 8) (hdg : decode cc pc = .ok (.invokespecial index, 3)) (hf : cells ≤ R.cells ∧ slots ≤ R.slots)
    (kk : ∀ (H1 : Heap) (locs1 : List Loc), va_P D cl (zset ws isC w') H1 → va_D A (zset ws isC w') → va_S A s.heap H1 locs1 → W p l e R s m args below meth c H1 locs1 cells slots Q (F0 m (pc + 3) ls (o.toList ++ rest))) : W p l e R s m args below meth c H locs cells slots Q (F0 m pc ls st0) :=
  z_go isC (va_runSU (As := As) (rest := rest) (hK.1 ci q hc).2 S (hM H.size) cw ⟨z_blind hg, va_recv hK hP hc he, z_pre hg (.ref b :: As) isC hG hK hP hD hS hA hC hn⟩ rfl hAs hsize hstack (lv_room hW) hdg hf) hP hD hS hA hC hadr kk
variable {o : List Nat → Option Value} {n mc ms : Nat} {w1 w2 : List Nat → va_W}
theorem zcnU (isC : List Nat) (q0 : Nat) {ci : Nat} {q : vw_C} {fs : List Value} (hg : zOK G) (S : CallFix p m c cc nL s args Ts own) (hM : zMN G D cl tys l y wsM rm (.ref b :: As) w o n w1 w2 mc ms) (cw : va_CU R s args own q.1 owner index x y bytes maxL ret wsM rm mc ms k)
    (hG : G A s) (hK : va_K D cl tys s) (hP : va_P D cl ws H) (hD : va_D A ws) (hS : va_S A s.heap H locs) (hA : ∀ q, s.heap.size ≤ q → A q) (hC : isC.map (fun i => ws[i]?) = w.map some) (hn : va_nd isC = true) (hadr : ∀ qs, qs.length = n → (w1 qs).map (·.1) = w.map (·.1)) (hc : cl[ci]? = some q) (he : ws[q0]? = some (b, .inr (ci, fs)))
    (hAs : As.length = k) (hsize : ls.size = nL) (hstack : st0 = As.reverse ++ .ref b :: rest) (hW : (rest.map fun v => v.category).sum ≤ 8) (hdg : decode cc pc = .ok (.invokevirtual index, 3)) (hf : cells + mc ≤ R.cells ∧ slots + ms ≤ R.slots)
    (kk : ∀ (qs : List Nat) (H1 : Heap) (locs1 : List Loc), qs.length = n → va_P D cl (zset ws isC (w1 qs) ++ w2 qs) H1 → va_D A (zset ws isC (w1 qs) ++ w2 qs) → va_S A s.heap H1 locs1 → W p l e R s m args below meth c H1 locs1 (cells + mc) (slots + ms) Q (F0 m (pc + 3) ls ((o qs).toList ++ rest))) : W p l e R s m args below meth c H locs cells slots Q (F0 m pc ls st0) :=
  zn_go isC (va_runU (As := As) (rest := rest) S (hM H.size) cw ⟨z_blind hg, va_recv hK hP hc he, z_pre hg (.ref b :: As) isC hG hK hP hD hS hA hC hn⟩ rfl hAs hsize hstack (lv_room hW) hdg hf) hP hD hS hA hC hadr kk
theorem zcnSU (isC : List Nat) (q0 : Nat) {ci : Nat} {q : vw_C} {fs : List Value} (hg : zOK G) (S : CallFix p m c cc nL s args Ts own) (hM : zMN G D cl tys l y wsM rm (.ref b :: As) w o n w1 w2 mc ms) (cw : va_CS R s args own index y bytes maxL ret wsM rm mc ms k)
    (hG : G A s) (hK : va_K D cl tys s) (hP : va_P D cl ws H) (hD : va_D A ws) (hS : va_S A s.heap H locs) (hA : ∀ q, s.heap.size ≤ q → A q) (hC : isC.map (fun i => ws[i]?) = w.map some) (hn : va_nd isC = true) (hadr : ∀ qs, qs.length = n → (w1 qs).map (·.1) = w.map (·.1)) (hc : cl[ci]? = some q) (he : ws[q0]? = some (b, .inr (ci, fs)))
    (hAs : As.length = k) (hsize : ls.size = nL) (hstack : st0 = As.reverse ++ .ref b :: rest) (hW : (rest.map fun v => v.category).sum ≤ 8) (hdg : decode cc pc = .ok (.invokespecial index, 3)) (hf : cells + mc ≤ R.cells ∧ slots + ms ≤ R.slots)
    (kk : ∀ (qs : List Nat) (H1 : Heap) (locs1 : List Loc), qs.length = n → va_P D cl (zset ws isC (w1 qs) ++ w2 qs) H1 → va_D A (zset ws isC (w1 qs) ++ w2 qs) → va_S A s.heap H1 locs1 → W p l e R s m args below meth c H1 locs1 (cells + mc) (slots + ms) Q (F0 m (pc + 3) ls ((o qs).toList ++ rest))) : W p l e R s m args below meth c H locs cells slots Q (F0 m pc ls st0) :=
  zn_go isC (va_runSU (As := As) (rest := rest) (hK.1 ci q hc).2 S (hM H.size) cw ⟨z_blind hg, va_recv hK hP hc he, z_pre hg (.ref b :: As) isC hG hK hP hD hS hA hC hn⟩ rfl hAs hsize hstack (lv_room hW) hdg hf) hP hD hS hA hC hadr kk
/-- byte arrays, places by a number -/
theorem zbald (q0 k : Nat) {a : Nat} {cA : ClassId} {N : Nat} {f : Nat → Int32} (hx : p.tables.exec = Jvm.exec) (hb : c.code = cc) (hK : va_K D cl tys s) (hP : va_P D cl ws H) (ha : ws[q0]? = some (a, .inl (cA, N, .inl f))) (ht : tys[1]? = some (cA, .byte)) (hk : k < N) (hN : N < 2 ^ 31) (hdg : decode cc pc = .ok (.baload, 1))
    (kk : W p l e R s m args below meth c H locs cells slots Q (F0 m (pc + 1) ls (.int (f k) :: rest))) : W p l e R s m args below meth c H locs cells slots Q (F0 m pc ls (.int (nI k) :: .ref a :: rest)) :=
  va_bald hx hb hK hP q0 1 ha ht (vp_in_nI hk hN) hdg (by rw [nI_clamp (Nat.lt_trans hk hN)]; exact kk)
theorem zbast (q0 k : Nat) {a : Nat} {cA : ClassId} {N : Nat} {f : Nat → Int32} {x x' : Int32} (hx : p.tables.exec = Jvm.exec) (hb : c.code = cc) (hK : va_K D cl tys s) (hP : va_P D cl ws H) (hD : va_D A ws) (hS : va_S A s.heap H locs) (ha : ws[q0]? = some (a, .inl (cA, N, .inl f))) (ht : tys[1]? = some (cA, .byte)) (hk : k < N) (hN : N < 2 ^ 31) (hx' : vp_nar .byte x = x') (hdg : decode cc pc = .ok (.bastore, 1))
    (kk : ∀ (H1 : Heap) (locs1 : List Loc), va_P D cl (ws.set q0 (a, .inl (cA, N, .inl (upd f k x')))) H1 → va_D A (ws.set q0 (a, .inl (cA, N, .inl (upd f k x')))) → va_S A s.heap H1 locs1 → W p l e R s m args below meth c H1 locs1 cells slots Q (F0 m (pc + 1) ls rest)) : W p l e R s m args below meth c H locs cells slots Q (F0 m pc ls (.int x :: .int (nI k) :: .ref a :: rest)) :=
  va_bast hx hb hK hP hD hS q0 1 ha ht (vp_in_nI hk hN) hdg (by rw [nI_clamp (Nat.lt_trans hk hN), hx']; exact kk)
/-- bytes are copied into a larger array -/
theorem zcopyB (q0 q1 : Nat) {n n1 : Nat} {a a0 : Nat} {index : Nat} {cA : ClassId} {f g : Nat → Int32} {nn : Int32} (hexec : p.tables.exec = Jvm.exec) (hb : c.code = cc) (hml : c.maxLocals = ls.size) (hown : s.vm.findClass own = some m.cls) (hlink : (Cond.methodLink own index arraycopyName).before args s = true) (hnat : (Cond.native arraycopyName).before args s = true) (hstat : (Cond.static arraycopyName).before args s = true) (hini : (Cond.initialized "java/lang/System").before args s = true)
    (hK : va_K D cl tys s) (hP : va_P D cl ws H) (hD : va_D A ws) (hS : va_S A s.heap H locs) (ha0 : ws[q0]? = some (a0, .inl (cA, n, .inl f))) (ha1 : ws[q1]? = some (a, .inl (cA, n1, .inl g))) (ht : tys[1]? = some (cA, .byte)) (hn : nn.toNatClampNeg = n) (hn2 : ¬ nn < 0) (hle : n ≤ n1) (hfit : ∀ i, i < n → fits .byte (.int (f i)) = true)
    (hframes : 1 ≤ R.frames) (hlocals : (rest.map fun v => v.category).sum + (nativeFrameWords "java/lang/System" "arraycopy" 5 + 11) ≤ R.locals) (hdg : decode cc pc = .ok (.invokestatic index, 3))
    (kk : ∀ (H1 : Heap) (locs1 : List Loc), va_P D cl (ws.set q1 (a, .inl (cA, n1, .inl (va_cpy f g 0 0 n)))) H1 → va_D A (ws.set q1 (a, .inl (cA, n1, .inl (va_cpy f g 0 0 n)))) → va_S A s.heap H1 locs1 → W p l e R s m args below meth c H1 locs1 cells slots Q (F0 m (pc + 3) ls rest)) : W p l e R s m args below meth c H locs cells slots Q (F0 m pc ls (.int nn :: .int 0 :: .ref a :: .int 0 :: .ref a0 :: rest)) := by
  refine va_copyi hexec hb hml hown hlink hnat hstat hini hK hP hD hS q0 q1 1 1 ha0 ha1 ht ht rfl (by decide) (by decide) hn2 ?_ ?_ ?_ hframes hlocals hdg (fun H1 locs1 hP1 hD1 hS1 => ?_)
  · rw [hn]; show 0 + n ≤ n; omega
  · rw [hn]; show 0 + n ≤ n1; omega
  · rw [hn]
    intro i hi
    have h := hfit i hi
    rw [show (0 : Int32).toNatClampNeg + i = i from Nat.zero_add i]
    exact h
  · rw [hn] at hP1 hD1
    exact kk H1 locs1 hP1 hD1 hS1
end ZJ
