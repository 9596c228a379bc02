/-- what constructors rely on besides: the class of arrays of machines -/
def zGI (G : zG) : Prop := zGJ G ∧ ∀ (A : Nat → Prop) (U : State), G A U → va_AO RX4 U
section ZC8
variable {D : va_G} {cl : List vw_C} {tys : List (ClassId × FieldType)}
theorem zMN_ofI {G : zG} {l : Launch} {y : MethodName} {ws ws' : List Cond} {rm : Room} {as : List Value} {w : va_W} {o : List Nat → Option Value} {n : Nat} {w1 w2 : List Nat → va_W} {mc ms : Nat} {cc : ByteArray} {maxL : Nat} {ret : Option FieldType} (hy : plainName y.cls = true) (hw : ws = Cond.code y cc maxL ret :: ws') (hml0 : (lg_sl as).length ≤ maxL)
    (body : ∀ (p : Program) (e : Env) (s : State) (m : MethodId) (below : List Frame) (meth : Method) (c : Code) (A : Nat → Prop) (Q : State → Prop), (∀ t, MQ below (zNQ D cl tys o n w1 w2 A) as.toArray s mc ms A t → Q t) → p.tables.exec = Jvm.exec → c.code = cc → c.maxLocals = maxL → meth.sig.returnType = ret → (∀ q ∈ ws, q.before as.toArray s = true) → s.vm.findClass y.cls = some m.cls → meth.locks = false → meth.name = y.name → G A s → va_K D cl tys s → va_P D cl w s.heap → va_D A w → (∀ q, s.heap.size ≤ q → A q) → va_S A s.heap s.heap [] → ∀ ls : Array Slot, lv_has ls maxL (lv_args 0 as) → W p l e rm s m as.toArray below meth c s.heap [] 0 0 Q (F0 m 0 ls [])) : zMN G D cl tys l y ws rm as w o n w1 w2 mc ms := by
  intro sz
  refine Met.ofW (cc := cc) (maxL := maxL) (ret := ret) hy hw ?_
  intro p e s m args below meth c s₁ B hml hv
  obtain ⟨rfl, hsz, hG, hP, hK, hD0⟩ := hv
  have hts := atoms_spec (ws := ws) B.pre
  have hown := findClass_of_methodNamed B.named
  have hin := (name_of_methodNamed B.named B.method).1
  subst hsz
  have hl := lv_entry as (n := maxL) hml0
  rw [lg_entry_eq]
  exact body p e s m below meth c _ _ (fun _ h => h) B.exec B.bytes hml B.returns hts hown B.notSynchronized hin hG hK hP hD0.self (fun q h => Or.inr h) va_S.rf _ hl
variable {p : Program} {l : Launch} {e : Env} {R : Room} {s : State} {m : MethodId} {args : Array Value} {below : List Frame} {meth : Method} {c : Code} {H : Heap} {locs : List Loc} {cells slots : Nat} {Q : State → Prop}
variable {A : Nat → Prop} {ws : va_W} {cc : ByteArray} {pc : Nat} {ls : Array Slot} {rest : List Value}
/-- a new row of references, of the class that such rows have -/
theorem znewq {C own : String} {index : Nat} {n : Int32} {N1 t0 : Nat} {cA0 : ClassId} (hx : p.tables.exec = Jvm.exec) (hb : c.code = cc) (hown : s.vm.findClass own = some m.cls) (hclink : (Cond.classLink own index C).before args s = true) (hover : va_AO C s) (ht : tys[t0]? = some (cA0, .object C)) (hK : va_K D cl tys s) (hP : va_P D cl ws H) (hD : va_D A ws) (hS : va_S A s.heap H locs) (hA : ∀ q, s.heap.size ≤ q → A q)
    (hn : ¬ n < 0) (hN : n.toNatClampNeg = N1) (hbytes : N1 * 4 ≤ 536870912) (hcells : cells + 1 ≤ R.cells) (hslots : slots + N1 ≤ R.slots) (hdg : decode cc pc = .ok (.anewarray index, 3))
    (kk : ∀ (q : Nat) (H1 : Heap), va_P D cl (ws ++ [(q, .inl (cA0, N1, .inr (.inr (.inr (.inr (fun _ => none))))))]) H1 → va_D A (ws ++ [(q, .inl (cA0, N1, .inr (.inr (.inr (.inr (fun _ => none))))))]) → va_S A s.heap H1 locs →
      W p l e R s m args below meth c H1 locs (cells + 1) (slots + N1) Q (F0 m (pc + 3) ls (.ref q :: rest))) : W p l e R s m args below meth c H locs cells slots Q (F0 m pc ls (.int n :: rest)) := by
  refine va_newq hx hb hown hclink hover hK hP hD hS hA hn hN hbytes hcells hslots hdg (fun q cA H1 hK1 hP1 hD1 hS1 => ?_)
  have h1 := (hK1.2 tys.length (cA, .object C) (by simp)).2
  have h2 := (hK.2 t0 _ ht).2
  have h3 : cA = cA0 := by
    obtain ⟨_, _, _, _, _, h1⟩ := h1
    obtain ⟨_, _, _, _, _, h2⟩ := h2
    exact Option.some.inj (h1.symm.trans h2)
  subst h3
  exact kk q H1 hP1 hD1 hS1
theorem z_cellR {cA : ClassId} {n : Nat} {f g : Nat → Option Nat} (h : ∀ j, j < n → f j = g j) : vp_cell cA (n, .inr (.inr (.inr (.inr f)))) = vp_cell cA (n, .inr (.inr (.inr (.inr g)))) := by
  rw [vp_cell_q, vp_cell_q]
  simp only [arrV]
  congr 1
  apply Array.ext
  · simp
  · intro i h1 h2
    simp at h1 h2
    simp [h i (by omega)]
/-- a row of references matters up to its length alone -/
theorem z_arrR {q0 : Nat} {a : Nat} {cA : ClassId} {n : Nat} {f g : Nat → Option Nat} (hP : va_P D cl (ws.set q0 (a, .inl (cA, n, .inr (.inr (.inr (.inr f)))))) H) (h : ∀ j, j < n → f j = g j) : va_P D cl (ws.set q0 (a, .inl (cA, n, .inr (.inr (.inr (.inr g)))))) H := by
  intro k q hk
  by_cases hkq : q0 = k
  · subst hkq
    rw [List.getElem?_set] at hk
    by_cases hl : q0 < ws.length
    · simp only [hl, ↓reduceIte] at hk
      cases hk
      have h1 := hP q0 (a, .inl (cA, n, .inr (.inr (.inr (.inr f))))) (by rw [List.getElem?_set]; simp [hl])
      show H[a]? = some (vp_cell _ _)
      rw [← z_cellR h]
      exact h1
    · simp [hl] at hk
  · rw [List.getElem?_set_ne hkq] at hk
    exact hP k q (by rw [List.getElem?_set_ne hkq]; exact hk)
end ZC8
/-- a machine at first -/
def zm0 : Nat → Nat → Int32 := fun i j => if i = 8 then (if j = 2 then 3 else 0) else 0
def zn0_ : Nat → Nat := fun _ => 0
