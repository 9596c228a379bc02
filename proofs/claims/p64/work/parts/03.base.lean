/-- beside its world: the links of private methods across the nest -/
def zGN (G : zG) : Prop := zOK G ∧ ∀ (A : Nat → Prop) (U : State), G A U → va_Nw (.methodLinkNest RX0 31 yX5_hasBit RX5) U ∧ va_Nw (.methodLinkNest RX4 138 yX5_isNeedle RX5) U
/-- the arrays' classes, by their kinds -/
abbrev zT (cy : Nat → ClassId) : List (ClassId × FieldType) := [(cy 0, .int), (cy 1, .byte), (cy 2, .object "ShawlKnitter$Machine"), (cy 3, .boolean)]
def zI (b : Bool) : Int32 := if b then 1 else 0
theorem zI0 {b : Bool} (h : zI b = 0) : b = false := by cases b <;> simp [zI] at h ⊢
theorem zI1 {b : Bool} (h : ¬ zI b = 0) : b = true := by cases b <;> simp [zI] at h ⊢
theorem zI_nar (b : Bool) : narrow .boolean (.int (zI b)) = .int (zI b) := by cases b <;> rfl
section ZB
variable {p : Program} {l : Launch} {e : Env} {R : Room} {s : State} {m : MethodId} {args : Array Value} {below : List Frame} {meth : Method} {c : Code} {H : Heap} {locs : List Loc} {cells slots : Nat} {Q : State → Prop}
variable {D : va_G} {cl : List vw_C} {tys : List (ClassId × FieldType)} {A : Nat → Prop} {ws : va_W} {cc : ByteArray} {pc : Nat} {ls : Array Slot} {rest : List Value}
theorem z_top {x y : Int32} (h : x = y) (k : W p l e R s m args below meth c H locs cells slots Q (F0 m pc ls (.int y :: rest))) : W p l e R s m args below meth c H locs cells slots Q (F0 m pc ls (.int x :: rest)) := by
  subst h; exact k
/-- an array's contents matter up to its length alone -/
theorem z_cell {cA : ClassId} {n : Nat} {f g : Nat → Int32} (h : ∀ j, j < n → f j = g j) : vp_cell cA (n, .inl f) = vp_cell cA (n, .inl g) := by
  rw [vp_cell_i, vp_cell_i]
  have e1 : (fun j => Value.int (f j)) = fun j => Value.int (f j) := rfl
  simp only [arrV]
  congr 1
  apply Array.ext
  · simp
  · intro i h1 h2
    simp at h1 h2
    simp [h i (by omega)]
theorem z_arr {q0 : Nat} {a : Nat} {cA : ClassId} {n : Nat} {f g : Nat → Int32} {H0 : Heap} (hP : va_P D cl (ws.set q0 (a, .inl (cA, n, .inl f))) H) (h : ∀ j, j < n → f j = g j) : va_P D cl (ws.set q0 (a, .inl (cA, n, .inl g))) H := by
  intro k q hk
  by_cases hkq : q0 = k
  · subst hkq
    rw [List.getElem?_set] at hk
    by_cases hl : q0 < ws.length
    · simp only [hl, ↓reduceIte] at hk
      cases hk
      have h1 := hP q0 (a, .inl (cA, n, .inl f)) (by rw [List.getElem?_set]; simp [hl])
      show H[a]? = some (vp_cell _ _)
      rw [← z_cell h]
      exact h1
    · simp [hl] at hk
  · rw [List.getElem?_set_ne hkq] at hk
    exact hP k q (by rw [List.getElem?_set_ne hkq]; exact hk)
theorem z_setD {q0 : Nat} {a : Nat} {x y : va_E} (hD : va_D A (ws.set q0 (a, x))) : va_D A (ws.set q0 (a, y)) := by
  have key : ∀ (k : Nat) (q : Nat × va_E), (ws.set q0 (a, y))[k]? = some q → ∃ q2, (ws.set q0 (a, x))[k]? = some q2 ∧ q2.1 = q.1 := by
    intro k q hk
    by_cases hkq : q0 = k
    · subst hkq
      rw [List.getElem?_set] at hk ⊢
      by_cases hl : q0 < ws.length
      · simp only [hl, ↓reduceIte] at hk ⊢
        cases hk
        exact ⟨_, rfl, rfl⟩
      · simp [hl] at hk
    · rw [List.getElem?_set_ne hkq] at hk ⊢
      exact ⟨q, hk, rfl⟩
  refine ⟨fun i j u v hi hj huv => ?_, fun k q hk => ?_⟩
  · obtain ⟨u2, a1, a2⟩ := key i u hi
    obtain ⟨v2, b1, b2⟩ := key j v hj
    exact hD.1 i j u2 v2 a1 b1 (by rw [a2, b2, huv])
  · obtain ⟨q2, a1, a2⟩ := key k q hk
    rw [← a2]
    exact hD.2 k q2 a1
/-- System.arraycopy of a whole array of ints onto another one of the same length -/
theorem zcopy (q0 q1 n : Nat) {a a0 : Nat} {own : String} {index : Nat} {cA : ClassId} {f g : Nat → Int32} {nn : Int32} {H0 : Heap} (hexec : p.tables.exec = Jvm.exec) (hb : c.code = cc) (hml : c.maxLocals = ls.size) (hown : s.vm.findClass own = some m.cls) (hlink : (Cond.methodLink own index arraycopyName).before args s = true) (hnat : (Cond.native arraycopyName).before args s = true) (hstat : (Cond.static arraycopyName).before args s = true) (hini : (Cond.initialized "java/lang/System").before args s = true)
    (hK : va_K D cl tys s) (hP : va_P D cl ws H) (hD : va_D A ws) (hS : va_S A H0 H locs) (ha0 : ws[q0]? = some (a0, .inl (cA, n, .inl f))) (ha1 : ws[q1]? = some (a, .inl (cA, n, .inl g))) (ht0 : tys[0]? = some (cA, .int)) (hn : nn.toNatClampNeg = n) (hn2 : ¬ nn < 0)
    (hframes : 1 ≤ R.frames) (hlocals : (rest.map fun v => v.category).sum + (nativeFrameWords "java/lang/System" "arraycopy" 5 + 11) ≤ R.locals) (hdg : decode cc pc = .ok (.invokestatic index, 3))
    (kk : ∀ (H1 : Heap) (locs1 : List Loc), va_P D cl (ws.set q1 (a, .inl (cA, n, .inl f))) H1 → va_D A (ws.set q1 (a, .inl (cA, n, .inl f))) → va_S A H0 H1 locs1 → W p l e R s m args below meth c H1 locs1 cells slots Q (F0 m (pc + 3) ls rest)) : W p l e R s m args below meth c H locs cells slots Q (F0 m pc ls (.int nn :: .int 0 :: .ref a :: .int 0 :: .ref a0 :: rest)) := by
  refine va_copyi hexec hb hml hown hlink hnat hstat hini hK hP hD hS q0 q1 0 0 ha0 ha1 ht0 ht0 rfl (by decide) (by decide) hn2 ?_ ?_ (fun _ _ => rfl) hframes hlocals hdg (fun H1 locs1 hP1 hD1 hS1 => ?_)
  · rw [hn]; show 0 + n ≤ n; omega
  · rw [hn]; show 0 + n ≤ n; omega
  · rw [hn] at hP1
    exact kk H1 locs1 (z_arr (H0 := H0) hP1 (fun j hj => sb_cpy0 hj)) (z_setD hD1) hS1
end ZB
/-! the bed, as numbers -/
def zb (m b : Int32) : Bool := decide ((m >>> (b &&& 31)) &&& 1 = 1)
def zus (x k : Int32) : Int32 := (x.toUInt32 >>> (k.toUInt32 &&& Int32.toUInt32 31)).toInt32
def zp1 (i : Int32) : Int32 := i - (zus i 1 &&& 1431655765)
def zp2 (i : Int32) : Int32 := (i &&& 858993459) + (zus i 2 &&& 858993459)
def zp3 (i : Int32) : Int32 := (i + zus i 4) &&& 252645135
def zp4 (i : Int32) : Int32 := i + zus i 8
def zp5 (i : Int32) : Int32 := i + zus i 16
def zpop (i : Int32) : Int32 := zp5 (zp4 (zp3 (zp2 (zp1 i)))) &&& 63
def zsum (f : Nat → Int32) : Nat → Int32
  | 0 => 0
  | k + 1 => zsum f k + f k
def zlm (lo : Nat → Int32) : Nat → Int32
  | 0 => 0
  | k + 1 => if lo k ≤ 0 then zlm lo k else zlm lo k ||| (1 <<< (nI k &&& 31))
/-- the first place from k on, among n, with p; or -1 -/
def zfi (p : Nat → Bool) : Nat → Nat → Int32
  | 0, _ => -1
  | n + 1, k => if p k then nI k else zfi p n (k + 1)
def zrn (lo : Nat → Int32) : Nat → Int32
  | 0 => 0
  | k + 1 => if lo k ≤ 0 then 0 else zrn lo k + 1
def zrl (lo : Nat → Int32) : Nat → Int32
  | 0 => 0
  | k + 1 => if zrl lo k < zrn lo (k + 1) then zrn lo (k + 1) else zrl lo k
def zrs : Nat → Int32 → Nat → Int32
  | 0, _, _ => 24
  | n + 1, m, st => if m = 0 then nI st else zrs n (m &&& (m <<< (1 &&& 31))) (st + 1)
def zkn (lo : Nat → Int32) (wk hd row : Int32) (k : Nat) : Bool := !decide (lo k ≤ 0) && zb (wk &&& (hd ^^^ (-1))) (nI k) && zb row (nI k - nI k / 8 * 8)
def zwd (lo : Nat → Int32) (wk hd row : Int32) : Nat → Int32
  | 0 => 0
  | k + 1 => if zkn lo wk hd row k = true then zwd lo wk hd row k + 1 else zwd lo wk hd row k
def zkm (row : Int32) : Nat → Int32
  | 0 => 0
  | j + 1 => zkm row j ||| (row <<< (nI (8 * j) &&& 31))
def zsg (lo : Nat → Int32) (wk hd : Int32) (k : Nat) : Int32 := if zb wk (nI k) = true then (if lo k = 0 then (if zb hd (nI k) = true then 104 else 111) else ((if zb hd (nI k) = true then 97 else 49) + lo k - 1).toUInt32 % 65536 |>.toInt32) else 46
def zclr (f : Nat → Int32) : Nat → (Nat → Int32)
  | 0 => f
  | k + 1 => upd (zclr f k) k 0
def zta (lo : Nat → Int32) : Nat → Int32
  | 0 => 0
  | k + 1 => zta lo k + zclr lo k k
def zcm (w : Int32) : Nat → Int32
  | 0 => w
  | k + 1 => zcm w k &&& ((1 <<< (nI k &&& 31)) ^^^ (-1))
def zpw (w : Int32) (a : Nat) : Nat → Int32
  | 0 => w
  | n + 1 => zpw w a n ||| (1 <<< (nI (a + n) &&& 31))
def zpf (f : Nat → Int32) (a : Nat) (v : Int32) : Nat → (Nat → Int32)
  | 0 => f
  | n + 1 => upd (zpf f a v n) (a + n) v
def zgd (lo ag : Nat → Int32) (k : Nat) : Int32 := if upd ag k (ag k + 1) k < 6 then 0 else lo k
def zgl (lo ag : Nat → Int32) (k : Nat) : Nat → Int32 := if upd ag k (ag k + 1) k < 6 then lo else upd lo k 0
def zga (ag : Nat → Int32) (k : Nat) : Nat → Int32 := if upd ag k (ag k + 1) k < 6 then upd ag k (ag k + 1) else upd (upd ag k (ag k + 1)) k 0
/-- one course passes over the first needles: loops, ages, what has dropped -/
def zpc (lo ag : Nat → Int32) (wk hd row : Int32) : Nat → (Nat → Int32) × (Nat → Int32) × Int32
  | 0 => (lo, ag, 0)
  | k + 1 =>
    if zkn (zpc lo ag wk hd row k).1 wk hd row k = true then (upd (zpc lo ag wk hd row k).1 k 1, upd (zpc lo ag wk hd row k).2.1 k 0, (zpc lo ag wk hd row k).2.2)
    else if (zpc lo ag wk hd row k).1 k ≤ 0 then zpc lo ag wk hd row k
    else (zgl (zpc lo ag wk hd row k).1 (zpc lo ag wk hd row k).2.1 k, zga (zpc lo ag wk hd row k).2.1 k, (zpc lo ag wk hd row k).2.2 + zgd (zpc lo ag wk hd row k).1 (zpc lo ag wk hd row k).2.1 k)
