/-! contracts whose end is told by a relation; consequence and frame -/
/-- what handlers rely on: classes of exceptions that are no kinds of others -/
def zNcL : List (String × String) := [("java/lang/IllegalArgumentException", "java/lang/IndexOutOfBoundsException"), ("java/lang/UnsupportedOperationException", "java/lang/IndexOutOfBoundsException"), ("java/lang/UnsupportedOperationException", "java/lang/IllegalArgumentException"), ("java/util/NoSuchElementException", "java/lang/IndexOutOfBoundsException"), ("java/lang/IllegalStateException", "java/lang/IllegalArgumentException"), ("java/lang/UnsupportedOperationException", "java/lang/IllegalStateException")]
def zGL (G : zG) : Prop := zGA G ∧ ∀ (A : Nat → Prop) (U : State), G A U → ∀ q ∈ zNcL, va_Nc q.1 q.2 U
section ZK9
variable {D : va_G} {cl : List vw_C} {tys : List (ClassId × FieldType)}
theorem z_hasRoom_mono {s : State} {pl : Platform} {r r' : Room} (hf : r.frames ≤ r'.frames) (hl : r.locals ≤ r'.locals) (hc : r.cells ≤ r'.cells) (hs : r.slots ≤ r'.slots) (h : s.hasRoom pl r' = true) : s.hasRoom pl r = true := by
  simp only [State.hasRoom, Bool.and_eq_true, decide_eq_true_eq] at h ⊢
  obtain ⟨⟨⟨⟨y, a, b, c, d, e⟩, f⟩, g⟩, i⟩ := h
  exact ⟨⟨⟨⟨by omega, by omega, by omega, by omega, by omega, e⟩, by omega⟩, by omega⟩, i⟩
theorem z_respec {l : Launch} {x : MethodName} {ws : List Cond} {rm rm' : Room} {P : Array Value → State → Prop} {K : Program → Env → List Frame → State → Array Value → Prop} {Q : Array Value → State → Outcome → State → Prop}
    (h : MetFree l x (headSpec ws rm) P K Q) (hf : rm.frames ≤ rm'.frames) (hl : rm.locals ≤ rm'.locals) (hc : rm.cells ≤ rm'.cells) (hs : rm.slots ≤ rm'.slots) : MetFree l x (headSpec ws rm') P K Q := by
  intro p e ha hcs hk s m args below hfr happ hP hK
  obtain ⟨a1, a2, a3, a4, a5, a6, a7, a8⟩ := (Spec.appliesLoose_iff hfr).mp happ
  exact h p e ha hcs hk s m args below hfr ((Spec.appliesLoose_iff hfr).mpr ⟨a1, a2, a3, a4, a5, a6, z_hasRoom_mono hf hl hc hs a7, a8⟩) hP hK
def zCQ (D : va_G) (cl : List vw_C) (tys : List (ClassId × FieldType)) (Φ : va_W → Option Value → Prop) (A : Nat → Prop) : Array Value → State → Outcome → State → Prop := fun _ st oc t => ∃ (w' : va_W) (o : Option Value), Φ w' o ∧ oc = .returned o ∧ (va_P D cl w' t.heap ∧ va_K D cl tys t ∧ va_D A w') ∧ va_F A st t
/-- out of the world w, at the arguments as, it answers o and leaves w', which Φ tells -/
def zC (G : zG) (D : va_G) (cl : List vw_C) (tys : List (ClassId × FieldType)) (l : Launch) (y : MethodName) (ws : List Cond) (rm : Room) (as : List Value) (w : va_W) (Φ : va_W → Option Value → Prop) (mc ms : Nat) : Prop :=
  ∀ sz : Nat, Met l y ws rm (zPre G D cl tys as w sz) (zCQ D cl tys Φ (va_A w sz)) mc ms (va_A w sz)
/-- a world out of another, cells left out or moved -/
def zSub (w w2 : va_W) : Prop := (∀ (D : va_G) (cl : List vw_C) (H : Heap), va_P D cl w H → va_P D cl w2 H) ∧ ∀ A : Nat → Prop, va_D A w → va_D A w2
theorem zSub.rf {w : va_W} : zSub w w := ⟨fun _ _ _ h => h, fun _ h => h⟩
theorem zSub.of {w w2 : va_W} (is : List Nat) (hn : va_nd is = true) (hs : is.map (fun i => w[i]?) = w2.map some) : zSub w w2 :=
  ⟨fun _ _ _ hP k q hq => by obtain ⟨i, -, h2⟩ := z_map_at hs k q hq; exact hP i q h2, fun _ hD => hD.sub is hn hs⟩
/-- the last cell takes the place of another one -/
theorem zSub.last {w : va_W} {p : Nat} {x y : Nat × va_E} (hp : p < w.length) : zSub (w.set p x ++ [y]) (w.set p y) := by
  have key : ∀ (k : Nat) (q : Nat × va_E), (w.set p y)[k]? = some q → (w.set p x ++ [y])[if k = p then w.length else k]? = some q := by
    intro k q hq
    have hk : k < w.length := by have := (List.getElem?_eq_some_iff.mp hq).1; simpa using this
    by_cases h : k = p
    · subst h
      rw [if_pos rfl, List.getElem?_append_right (by simp)]
      rw [List.getElem?_set] at hq
      simp [hp] at hq
      simp [hq]
    · rw [if_neg h, List.getElem?_append_left (by simpa using hk), List.getElem?_set_ne (fun z => h z.symm)]
      rw [List.getElem?_set_ne (fun z => h z.symm)] at hq
      exact hq
  refine ⟨fun D cl H hP k q hq => hP _ q (key k q hq), fun A hD => ⟨fun i j u v hi hj huv => ?_, fun k q hk => hD.2 _ q (key k q hk)⟩⟩
  have h := hD.1 _ _ u v (key i u hi) (key j v hj) huv
  have hi' : i < w.length := by have := (List.getElem?_eq_some_iff.mp hi).1; simpa using this
  have hj' : j < w.length := by have := (List.getElem?_eq_some_iff.mp hj).1; simpa using this
  by_cases h1 : i = p <;> by_cases h2 : j = p <;> simp [h1, h2] at h ⊢ <;> omega
theorem zFE {st : State} {o : Outcome} {t : State} {L : List Loc} {mc ms mc' ms' : Nat} (h : FrameEnd st o t L mc ms) (h1 : mc ≤ mc') (h2 : ms ≤ ms') : FrameEnd st o t L mc' ms' := ⟨h.1, h.2.1, h.2.2.mono h1 h2⟩
theorem zC.mono {G : zG} {l : Launch} {y : MethodName} {ws : List Cond} {rm rm' : Room} {as : List Value} {w : va_W} {Φ Φ' : va_W → Option Value → Prop} {mc ms mc' ms' : Nat} (h : zC G D cl tys l y ws rm as w Φ mc ms) (hΦ : ∀ w' o, Φ w' o → ∃ w2, Φ' w2 o ∧ zSub w' w2)
    (hf : rm.frames ≤ rm'.frames) (hl : rm.locals ≤ rm'.locals) (hc : rm.cells ≤ rm'.cells) (hs : rm.slots ≤ rm'.slots) (h1 : mc ≤ mc') (h2 : ms ≤ ms') : zC G D cl tys l y ws rm' as w Φ' mc' ms' := by
  intro sz
  refine MetFree.mono (z_respec (h sz) hf hl hc hs) (fun _ _ q => q) (fun _ _ _ _ _ q => q) ?_
  intro a st o t _ hq
  obtain ⟨⟨w', ov, g1, g2, ⟨gP, gK, gD⟩, gF⟩, L, g3, g4⟩ := hq
  obtain ⟨w2, k1, k2⟩ := hΦ w' ov g1
  exact ⟨⟨w2, ov, k1, g2, ⟨k2.1 _ _ _ gP, gK, k2.2 _ gD⟩, gF⟩, L, zFE g3 h1 h2, g4⟩
theorem zM.C {G : zG} {l : Launch} {y : MethodName} {ws : List Cond} {rm : Room} {as : List Value} {w w' : va_W} {o : Option Value} (h : zM G D cl tys l y ws rm as w o w') : zC G D cl tys l y ws rm as w (fun w2 o2 => w2 = w' ∧ o2 = o) 0 0 := by
  intro sz
  refine MetFree.mono (h sz) (fun _ _ q => q) (fun _ _ _ _ _ q => q) ?_
  intro a st oc t _ hq
  obtain ⟨⟨g1, g2, g3⟩, L, g4, g5⟩ := hq
  exact ⟨⟨w', o, ⟨rfl, rfl⟩, g1, g2, g3⟩, L, g4, g5⟩
theorem zMN.C {G : zG} {l : Launch} {y : MethodName} {ws : List Cond} {rm : Room} {as : List Value} {w : va_W} {o : List Nat → Option Value} {n : Nat} {w1 w2 : List Nat → va_W} {mc ms : Nat} (h : zMN G D cl tys l y ws rm as w o n w1 w2 mc ms) : zC G D cl tys l y ws rm as w (fun w' o2 => ∃ qs : List Nat, qs.length = n ∧ w' = w1 qs ++ w2 qs ∧ o2 = o qs) mc ms := by
  intro sz
  refine MetFree.mono (h sz) (fun _ _ q => q) (fun _ _ _ _ _ q => q) ?_
  intro a st oc t _ hq
  obtain ⟨⟨qs, g0, g1, g2, g3⟩, L, g4, g5⟩ := hq
  exact ⟨⟨_, _, ⟨qs, g0, rfl, rfl⟩, g1, g2, g3⟩, L, g4, g5⟩
/-- new cells lie apart from all that was there -/
theorem z_cross {ws w w1 wn : va_W} {H : Heap} (isC : List Nat) (hP : va_P D cl ws H) (hC : isC.map (fun i => ws[i]?) = w.map some) (hadr : w1.map (·.1) = w.map (·.1)) (qD : va_D (va_A w H.size) (w1 ++ wn)) : ∀ (i j : Nat) (x y : Nat × va_E), (zset ws isC w1)[i]? = some x → wn[j]? = some y → x.1 ≠ y.1 := by
  have hlen : isC.length = w1.length := (z_len hC).trans (by have := congrArg List.length hadr; simpa using this.symm)
  intro i j x y hi hj hxy
  have hx : ∃ q2, ws[i]? = some q2 ∧ q2.1 = x.1 := by
    rcases zset_get isC w1 ws hlen i x hi with ⟨j2, h1, h2⟩ | ⟨h1, h2⟩
    · obtain ⟨q2, h3, h4⟩ := z_adr hadr j2 x h2
      obtain ⟨q3, h5, h6⟩ := z_map_at2 hC j2 i h1
      rw [h3] at h5
      cases h5
      exact ⟨q2, h6, h4⟩
    · exact ⟨x, h2, rfl⟩
  obtain ⟨q2, g1, g2⟩ := hx
  have hlt := (hP i q2 g1).lt
  have hy2 : (w1 ++ wn)[w1.length + j]? = some y := by rw [List.getElem?_append_right (Nat.le_add_right _ _), Nat.add_sub_cancel_left]; exact hj
  rcases qD.2 _ y hy2 with ⟨k2, e3, h⟩ | h
  · have h9 : (w1.map (·.1))[k2]? = some y.1 := by rw [hadr, List.getElem?_map, h]; rfl
    rw [List.getElem?_map] at h9
    cases h8 : w1[k2]? with
    | none => rw [h8] at h9; cases h9
    | some z =>
      rw [h8] at h9
      have hkl := (List.getElem?_eq_some_iff.mp h8).1
      have := qD.1 _ _ z y (by rw [List.getElem?_append_left hkl]; exact h8) hy2 (Option.some.inj h9)
      omega
  · rw [← hxy, ← g2] at h
    omega
/-- the frame rule, said of contracts -/
theorem zC.at {G : zG} (hg : zOK G) {l : Launch} {y : MethodName} {ws : List Cond} {rm : Room} {as : List Value} {w w0 : va_W} {Φ : va_W → Option Value → Prop} {mc ms : Nat} (h : zC G D cl tys l y ws rm as w Φ mc ms) (isC : List Nat) (hC : isC.map (fun i => w0[i]?) = w.map some) (hn : va_nd isC = true)
    (hΦ : ∀ w' o, Φ w' o → ∃ w1 wn, w' = w1 ++ wn ∧ w1.map (·.1) = w.map (·.1)) : zC G D cl tys l y ws rm as w0 (fun w2 o => ∃ w1 wn, Φ (w1 ++ wn) o ∧ w1.map (·.1) = w.map (·.1) ∧ w2 = zset w0 isC w1 ++ wn) mc ms := by
  intro sz
  have hF : ∀ q, va_A w sz q → va_A w0 sz q := by
    intro q hq
    rcases hq with ⟨k, e, hk⟩ | hq
    · obtain ⟨i, -, h2⟩ := z_map_at hC k (q, e) hk
      exact Or.inl ⟨i, e, h2⟩
    · exact Or.inr hq
  refine MetFree.mono (h sz) ?_ (fun _ _ _ _ _ q => q) ?_
  · rintro a U ⟨q0, q1, qG, qP, qK, qD⟩
    exact ⟨q0, q1, hg.1 _ _ U hF qG, fun k q hq => by obtain ⟨i, -, h2⟩ := z_map_at hC k q hq; exact qP i q h2, qK, qD.sub isC hn hC⟩
  · rintro a st oc t ⟨q0, q1, qG, qP, qK, qD⟩ ⟨⟨w', ov, g1, g2, ⟨gP, gK, gD⟩, gF⟩, L, g3, g4⟩
    subst q1
    obtain ⟨w1, wn, rfl, hadr⟩ := hΦ w' ov g1
    have hk : ∀ q : Nat, q < st.heap.size → ¬ va_A w st.heap.size q → t.heap[q]? = st.heap[q]? := gF.2
    refine ⟨⟨_, ov, ⟨w1, wn, g1, hadr, rfl⟩, g2, ⟨?_, gK, ?_⟩, gF.1, fun q h1 h2 => gF.2 q h1 (fun z => h2 (hF q z))⟩, L, g3, fun q hq => hF _ (g4 q hq)⟩
    · exact (zset_P isC qP qD hC hadr hk (va_P_left gP)).app (va_P_right gP)
    · exact (zset_D isC qD.self hC hadr).app ((va_D_right gD).weaken (fun _ q _ h => hF q.1 h)) (z_cross isC qP hC hadr gD)
/-- .. with the same cells behind it, written anew -/
theorem zM.at {G : zG} (hg : zOK G) {l : Launch} {y : MethodName} {ws : List Cond} {rm rm' : Room} {as : List Value} {w w' w0 w2 : va_W} {o : Option Value} {Φ : va_W → Option Value → Prop} {mc ms : Nat} (h : zM G D cl tys l y ws rm as w o w') (isC : List Nat) (hC : isC.map (fun i => w0[i]?) = w.map some) (hn : va_nd isC = true) (hadr : w'.map (·.1) = w.map (·.1)) (hz : zset w0 isC w' = w2) (hΦ : Φ w2 o)
    (hf : rm.frames ≤ rm'.frames) (hl : rm.locals ≤ rm'.locals) (hc : rm.cells ≤ rm'.cells) (hs : rm.slots ≤ rm'.slots) : zC G D cl tys l y ws rm' as w0 Φ mc ms := by
  refine zC.mono (zC.at hg (zM.C h) isC hC hn (fun w3 o3 h3 => ⟨w', [], by rw [h3.1, List.append_nil], hadr⟩)) ?_ hf hl hc hs (Nat.zero_le _) (Nat.zero_le _)
  rintro w3 o3 ⟨w1, wn, ⟨e1, rfl⟩, e2, rfl⟩
  have hl1 : w1.length = w'.length := by have := congrArg List.length (e2.trans hadr.symm); simpa using this
  obtain ⟨rfl, rfl⟩ := List.append_inj (e1.trans (List.append_nil w').symm) hl1
  exact ⟨w2, hΦ, by rw [hz, List.append_nil]; exact zSub.rf⟩
theorem zMN.at {G : zG} (hg : zOK G) {l : Launch} {y : MethodName} {ws : List Cond} {rm rm' : Room} {as : List Value} {w w0 : va_W} {o : List Nat → Option Value} {n : Nat} {w1 w2 : List Nat → va_W} {Φ : va_W → Option Value → Prop} {mc ms mc' ms' : Nat} (h : zMN G D cl tys l y ws rm as w o n w1 w2 mc ms) (isC : List Nat) (hC : isC.map (fun i => w0[i]?) = w.map some) (hn : va_nd isC = true) (hadr : ∀ qs, (w1 qs).map (·.1) = w.map (·.1)) (hΦ : ∀ qs, qs.length = n → ∃ w3, Φ w3 (o qs) ∧ zSub (zset w0 isC (w1 qs) ++ w2 qs) w3)
    (hf : rm.frames ≤ rm'.frames) (hl : rm.locals ≤ rm'.locals) (hc : rm.cells ≤ rm'.cells) (hs : rm.slots ≤ rm'.slots) (h1 : mc ≤ mc') (h2 : ms ≤ ms') : zC G D cl tys l y ws rm' as w0 Φ mc' ms' := by
  refine zC.mono (zC.at hg (zMN.C h) isC hC hn (fun w3 o3 h3 => by obtain ⟨qs, -, rfl, -⟩ := h3; exact ⟨w1 qs, w2 qs, rfl, hadr qs⟩)) ?_ hf hl hc hs h1 h2
  rintro w3 o3 ⟨v1, vn, ⟨qs, e0, e1, rfl⟩, e2, rfl⟩
  have hl1 : v1.length = (w1 qs).length := by have := congrArg List.length (e2.trans (hadr qs).symm); simpa using this
  obtain ⟨rfl, rfl⟩ := List.append_inj e1 hl1
  exact hΦ qs e0
/-! the law's calls: the world in two parts -/
theorem va_P_swap {a b : va_W} {H : Heap} (h : va_P D cl (a ++ b) H) : va_P D cl (b ++ a) H := (va_P_right h).app (va_P_left h)
theorem va_D_left {A : Nat → Prop} {a b : va_W} (h : va_D A (a ++ b)) : va_D A a :=
  ⟨fun i j x y hi hj hxy => h.1 i j x y (by rw [List.getElem?_append_left (List.getElem?_eq_some_iff.mp hi).1]; exact hi) (by rw [List.getElem?_append_left (List.getElem?_eq_some_iff.mp hj).1]; exact hj) hxy, fun k q hk => h.2 k q (by rw [List.getElem?_append_left (List.getElem?_eq_some_iff.mp hk).1]; exact hk)⟩
theorem va_D_apart {A : Nat → Prop} {a b : va_W} (h : va_D A (a ++ b)) : ∀ (i j : Nat) (p q : Nat × va_E), a[i]? = some p → b[j]? = some q → p.1 ≠ q.1 := by
  intro i j p q hi hj hpq
  have hl := (List.getElem?_eq_some_iff.mp hi).1
  have := h.1 i (a.length + j) p q (by rw [List.getElem?_append_left hl]; exact hi) (by rw [List.getElem?_append_right (Nat.le_add_right _ _), Nat.add_sub_cancel_left]; exact hj) hpq
  omega
theorem va_D_swap {A : Nat → Prop} {a b : va_W} (h : va_D A (a ++ b)) : va_D A (b ++ a) := (va_D_right h).app (va_D_left h) (fun i j p q hi hj hpq => va_D_apart h j i q p hj hi hpq.symm)
variable {p : Program} {l : Launch} {e : Env} {R : Room} {s : State} {m : MethodId} {args : Array Value} {below : List Frame} {meth : Method} {c : Code} {H : Heap} {locs : List Loc} {cells slots : Nat} {Q : State → Prop}
variable {A : Nat → Prop} {w w' wx r : va_W} {cc bytes : ByteArray} {pc nL maxL n index mc ms : Nat} {ls : Array Slot} {rest As st0 : List Value} {ret : Option FieldType} {wsM Ts : List Cond} {rm : Room} {own : String} {y : MethodName} {b : Addr} {G : zG} {Φ : va_W → Option Value → Prop}
theorem zl_go {a : Array Value} (hr : va_Run p l e R s m args below meth c H locs cells slots mc ms (F0 m pc ls st0) rest (zCQ D cl tys Φ (va_A w H.size) a) (va_A w H.size))
    (hP : va_P D cl (w ++ r) H) (hD : va_D A (w ++ r)) (hS : va_S A s.heap H locs) (hA : ∀ q, s.heap.size ≤ q → A q)
    (kk : ∀ (w' : va_W) (o : Option Value) (H1 : Heap) (locs1 : List Loc), Φ w' o → va_P D cl (w' ++ r) H1 → va_D A (w' ++ r) → va_S A s.heap H1 locs1 → W p l e R s m args below meth c H1 locs1 (cells + mc) (slots + ms) Q (F0 m (pc + 3) ls (o.toList ++ rest))) : W p l e R s m args below meth c H locs cells slots Q (F0 m pc ls st0) := by
  have hF : ∀ q, va_A w H.size q → A q := by
    rintro q (⟨k, e, h⟩ | h)
    · exact (va_D_left hD).2 k (q, e) h
    · exact hA q (Nat.le_trans hS.1 h)
  intro T hT X
  obtain ⟨v, st₀, t, T', L, h0, X', hL, e1, e2, ⟨w', ov, g1, g2, ⟨gP, -, gD⟩, hz, hk⟩, st⟩ := hr T hT X
  cases g2
  rw [h0] at hz hk
  have hk2 : ∀ q : Nat, q < H.size → ¬ va_A w H.size q → T'.heap[q]? = H[q]? := fun q h1 h2 => by rw [e1]; exact hk q h1 h2
  have hPr := va_P_right hP
  have hap := va_D_apart hD
  have hrk : ∀ (k : Nat) (q : Nat × va_E), r[k]? = some q → ¬ va_A w H.size q.1 := by
    rintro k q hq (⟨i, e3, h⟩ | h)
    · exact hap i k (q.1, e3) q h hq rfl
    · have := (hPr k q hq).lt; omega
  have hP1 : va_P D cl (w' ++ r) T'.heap := va_P.app (by rw [e1]; exact gP) (fun k q hq => (hPr k q hq).kept (hk2 q.1 (hPr k q hq).lt (hrk k q hq)))
  have hD1 : va_D A (w' ++ r) := (gD.weaken (fun _ q _ h => hF q.1 h)).app (va_D_right hD) (fun i j x y hi hj hxy => hrk j y hj (by rw [← hxy]; exact gD.2 i x hi))
  obtain ⟨t2, a1, b1⟩ := kk w' _ T'.heap (locs ++ L) g1 hP1 hD1
    ⟨Nat.le_trans hS.1 (by rw [e1]; exact hz), fun q h1 h2 => by rw [hk2 q (Nat.lt_of_lt_of_le h1 hS.1) (fun z => h2 (hF q z))]; exact hS.2.1 q h1 h2, fun q hq => by
      rcases List.mem_append.mp hq with h | h
      · exact hS.2.2 q h
      · exact hF _ (hL q h)⟩ T' rfl X'
  exact ⟨t2, st t2 a1, b1⟩
theorem z_preL {G : zG} (hg : zOK G) (as : List Value) (hG : G A s) (hK : va_K D cl tys s) (hP : va_P D cl (w ++ r) H) (hD : va_D A (w ++ r)) (hS : va_S A s.heap H locs) (hA : ∀ q, s.heap.size ≤ q → A q) : ∀ U : State, U.heap = H → s.WarmedH U.vm → zPre G D cl tys as w H.size as.toArray U :=
  z_preI hg as hG hK (va_P_left hP) (va_D_left hD) hS hA
/-- a static method with a table of its own -/
theorem zlS {hh : List (Nat × Nat × Nat × Nat)} (hg : zOK G) (S : CallFix p m c cc nL s args Ts own) (hM : zC G D cl tys l y wsM rm As w Φ mc ms) (cw : vx_CSW R s args own index y bytes maxL ret hh wsM rm mc ms n)
    (hG : G A s) (hK : va_K D cl tys s) (hP : va_P D cl (w ++ r) H) (hD : va_D A (w ++ r)) (hS : va_S A s.heap H locs) (hA : ∀ q, s.heap.size ≤ q → A q)
    (hAs : As.length = n) (hsize : ls.size = nL) (hstack : st0 = As.reverse ++ rest) (hW : (rest.map fun v => v.category).sum ≤ 8) (hdg : decode cc pc = .ok (.invokestatic index, 3)) (hf : cells + mc ≤ R.cells ∧ slots + ms ≤ R.slots)
    (kk : ∀ (w' : va_W) (o : Option Value) (H1 : Heap) (locs1 : List Loc), Φ w' o → va_P D cl (w' ++ r) H1 → va_D A (w' ++ r) → va_S A s.heap H1 locs1 → W p l e R s m args below meth c H1 locs1 (cells + mc) (slots + ms) Q (F0 m (pc + 3) ls (o.toList ++ rest))) : W p l e R s m args below meth c H locs cells slots Q (F0 m pc ls st0) :=
  zl_go (vx_runSW (As := As) (rest := rest) S (hM H.size) cw ⟨z_blind hg, z_preL hg As hG hK hP hD hS hA⟩ rfl hAs hsize hstack (lv_room hW) hdg hf) hP hD hS hA kk
/-- a method of an object -/
theorem zlV (q0 : Nat) {ci : Nat} {q : vw_C} {fs : List Value} (hg : zOK G) (S : CallFix p m c cc nL s args Ts own) (hM : zC G D cl tys l y wsM rm (.ref b :: As) w Φ mc ms) (cw : CallW R s args own q.1 index y bytes maxL ret wsM rm mc ms n)
    (hG : G A s) (hK : va_K D cl tys s) (hP : va_P D cl (w ++ r) H) (hD : va_D A (w ++ r)) (hS : va_S A s.heap H locs) (hA : ∀ q, s.heap.size ≤ q → A q) (hc : cl[ci]? = some q) (he : w[q0]? = some (b, .inr (ci, fs)))
    (hAs : As.length = n) (hsize : ls.size = nL) (hstack : st0 = As.reverse ++ .ref b :: rest) (hW : (rest.map fun v => v.category).sum ≤ 8) (hdg : decode cc pc = .ok (.invokevirtual index, 3)) (hf : cells + mc ≤ R.cells ∧ slots + ms ≤ R.slots)
    (kk : ∀ (w' : va_W) (o : Option Value) (H1 : Heap) (locs1 : List Loc), Φ w' o → va_P D cl (w' ++ r) H1 → va_D A (w' ++ r) → va_S A s.heap H1 locs1 → W p l e R s m args below meth c H1 locs1 (cells + mc) (slots + ms) Q (F0 m (pc + 3) ls (o.toList ++ rest))) : W p l e R s m args below meth c H locs cells slots Q (F0 m pc ls st0) :=
  zl_go (va_runV (As := As) (rest := rest) S (hM H.size) cw ⟨z_blind hg, va_recv hK (va_P_left hP) hc he, z_preL hg (.ref b :: As) hG hK hP hD hS hA⟩ rfl hAs hsize hstack (lv_room hW) hdg hf) hP hD hS hA kk
/-! methods with handlers -/
theorem zMN_ofH {l : Launch} {y : MethodName} {ws ws' : List Cond} {rm : Room} {as : List Value} {w : va_W} {o : List Nat → Option Value} {n : Nat} {w1 w2 : List Nat → va_W} {mc ms : Nat} {cc : ByteArray} {maxL : Nat} {ret : Option FieldType} {hh : List (Nat × Nat × Nat × Nat)} (hy : plainName y.cls = true) (hw : ws = Cond.codeWith y cc maxL ret hh :: ws') (hml0 : (lg_sl as).length ≤ maxL)
    (body : ∀ (p : Program) (e : Env) (s : State) (m : MethodId) (below : List Frame) (meth : Method) (c : Code) (A : Nat → Prop) (Q : State → Prop), (∀ t, MQ below (zNQ D cl tys o n w1 w2 A) as.toArray s mc ms A t → Q t) → c.exceptionTable.toList = tableOf hh → p.tables.exec = Jvm.exec → c.code = cc → c.maxLocals = maxL → meth.sig.returnType = ret → (∀ q ∈ ws, q.before as.toArray s = true) → s.vm.findClass y.cls = some m.cls → meth.locks = false → G A s → va_K D cl tys s → va_P D cl w s.heap → va_D A w → (∀ q, s.heap.size ≤ q → A q) → va_S A s.heap s.heap [] → ∀ ls : Array Slot, lv_has ls maxL (lv_args 0 as) → W p l e rm s m as.toArray below meth c s.heap [] 0 0 Q (F0 m 0 ls [])) : zMN G D cl tys l y ws rm as w o n w1 w2 mc ms := by
  intro sz
  refine MetFree.of_bodyS (code := cc) (maxLocals := maxL) (ret := ret) hy ?_ ?_
  · intro args s m h hn
    obtain ⟨m9, meth, c, hn9, h1, h2, h3, h4, -, h5, h6, -⟩ := Cond.codeWith_spec (atoms_spec (ws := ws) h _ (by rw [hw]; exact List.mem_cons_self))
    cases hn.symm.trans hn9
    exact ⟨meth, c, h1, h2, h3, h4, h5, h6⟩
  · intro p e s m args below meth c s₁ B hml hv _
    have hh0 : s₁.heap = s.heap := by rw [B.state]; rfl
    have hts := atoms_spec (ws := ws) B.pre
    have htab := vx_table (x := y) B (hts _ (by rw [hw]; exact List.mem_cons_self))
    obtain ⟨rfl, hsz, hG, hP, hK, hD0⟩ := hv
    have hown := findClass_of_methodNamed B.named
    subst hsz
    have hl := lv_entry as (n := maxL) hml0
    have hb := body p e s m below meth c _ (MQ below (zNQ D cl tys o n w1 w2 (va_A w s.heap.size)) as.toArray s mc ms (va_A w s.heap.size)) (fun _ h => h) htab B.exec B.bytes hml B.returns hts hown B.notSynchronized hG hK hP hD0.self (fun q h => Or.inr h) va_S.rf _ hl
    rw [← lg_entry_eq] at hb
    obtain ⟨t, a1, o9, b1, b2, b3⟩ := hb s₁ hh0 (Stand.of_body B)
    exact ⟨t, o9, a1, b1, b2, ⟨b3.1, b3.2⟩⟩
/-- a call whose exception is caught here -/
theorem zxcVH (isC : List Nat) (q0 : Nat) {ci : Nat} {q : vw_C} {fs : List Value} {E : String} {oc : Option Value} {wc wc' wcx ws : va_W} {mcc msc : Nat} {hh preh sufh : List (Nat × Nat × Nat × Nat)} {h9 : Nat × Nat × Nat × Nat} (hg : zOK G) (S : CallFix p m c cc nL s args Ts own) (hM : zMX G D cl tys l y wsM rm (.ref b :: As) wc (some E) oc wc' wcx mcc msc) (cw : CallW R s args own q.1 index y bytes maxL ret wsM rm mcc msc n)
    (htab : c.exceptionTable.toList = tableOf hh) (hsp : hh = preh ++ h9 :: sufh) (hpass : ∀ z ∈ preh, z.2.2.2 ≠ 0 ∧ ∃ nm : String, (Cond.classLink own z.2.2.2 nm).before args s = true ∧ va_Nc E nm s) (hcov : (decide (h9.1 ≤ pc) && decide (pc < h9.2.1)) = true) (h0 : h9.2.2.2 ≠ 0) (hlink : (Cond.classLink own h9.2.2.2 E).before args s = true) (hcast : (Cond.castable E E).before args s = true)
    (hG : G A s) (hK : va_K D cl tys s) (hP : va_P D cl ws H) (hD : va_D A ws) (hS : va_S A s.heap H locs) (hA : ∀ q, s.heap.size ≤ q → A q) (hC : isC.map (fun i => ws[i]?) = wc.map some) (hn : va_nd isC = true) (hadrx : wcx.map (·.1) = wc.map (·.1)) (hc : cl[ci]? = some q) (he : ws[q0]? = some (b, .inr (ci, fs)))
    (hAs : As.length = n) (hsize : ls.size = nL) (hstack : st0 = As.reverse ++ .ref b :: rest) (hW : (rest.map fun v => v.category).sum ≤ 8) (hdg : decode cc pc = .ok (.invokevirtual index, 3)) (hf : cells + mcc ≤ R.cells ∧ slots + msc ≤ R.slots)
    (kk : ∀ (q9 : Nat) (H1 : Heap) (locs1 : List Loc), va_P D cl (zset ws isC wcx) H1 → va_D A (zset ws isC wcx) → va_S A s.heap H1 locs1 → W p l e R s m args below meth c H1 locs1 (cells + mcc) (slots + msc) Q (F0 m h9.2.2.1 ls [.ref q9])) : W p l e R s m args below meth c H locs cells slots Q (F0 m pc ls st0) := by
  have hF := va_free hD hS hA isC hC
  have hr := vx_runV (As := As) (rest := rest) S (hM H.size) cw ⟨z_blind hg, va_recv hK hP hc he, z_pre hg (.ref b :: As) isC hG hK hP hD hS hA hC hn⟩ (meth := meth) (below := below) (e := e) (locs := locs) (cells := cells) (slots := slots) (g := F0 m pc ls st0) rfl hAs hsize hstack (lv_room hW) hdg hf
  obtain ⟨-, -, -, hown, -⟩ := S
  intro T hT XS
  rcases hr T hT XS with ⟨v, st₀, t, T', L, h0', X', hL, e1, e2, ⟨hX, -⟩, st⟩ | ⟨q9, st₀, t, T', L, E2, ce, h0', X', hL, e1, e2, ⟨hX, ⟨qP, -, -⟩, hz, hk⟩, hce, hcv, hcl, st⟩
  · cases hX
  · cases hX
    rw [h0'] at hz hk
    have hP1 := zset_P (H1 := T'.heap) isC hP hD hC hadrx (fun q h1 h2 => by rw [e1]; exact hk q h1 h2) (by rw [e1]; exact qP)
    have hD1 := zset_D isC hD hC hadrx
    have hS1 : va_S A s.heap T'.heap (locs ++ L) := ⟨Nat.le_trans hS.1 (by rw [e1]; exact hz), fun q h1 h2 => by rw [e1, hk q (Nat.lt_of_lt_of_le h1 hS.1) (fun z => h2 (hF q z))]; exact hS.2.1 q h1 h2, fun q hq => by
        rcases List.mem_append.mp hq with h | h
        · exact hS.2.2 q h
        · exact hF _ (hL q h)⟩
    have k := vx_catch (m := m) (H := T'.heap) (q := q9) (ce := ce) (locs := locs ++ L) (p := p) (l := l) (e := e) (R := R) (args := args) (below := below) (meth := meth) (Q := Q) (pc := pc) (ls := ls) (rest := rest) (cells := cells + mcc) (slots := slots + msc) hown (tableOf preh) ⟨h9.1, h9.2.1, h9.2.2.1, h9.2.2.2⟩ (tableOf sufh) (by rw [htab, hsp]; simp [tableOf])
      (fun z hz => by
        obtain ⟨z0, hz0, rfl⟩ := List.mem_map.mp hz
        exact Or.inr (hpass z0 hz0)) hcov h0 hlink hcast (by rw [e1]; exact hce) hcv hcl (kk q9 T'.heap (locs ++ L) hP1 hD1 hS1)
    obtain ⟨t2, a1, b1⟩ := k T' rfl X'
    exact ⟨t2, st.trans a1, b1⟩
end ZK9
