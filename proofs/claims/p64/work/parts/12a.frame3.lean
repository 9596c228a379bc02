/-! places in a world that is a list of cells and blocks behind it -/
def zrg : Nat → Nat → List Nat
  | _, 0 => []
  | e, n + 1 => e :: zrg (e + 1) n
theorem mem_zrg : ∀ (n e x : Nat), x ∈ zrg e n → e ≤ x ∧ x < e + n
  | 0, e, x, h => by cases h
  | n + 1, e, x, h => by
    rcases List.mem_cons.mp h with h | h
    · omega
    · have := mem_zrg n (e + 1) x h; omega
theorem len_zrg : ∀ (n e : Nat), (zrg e n).length = n
  | 0, e => rfl
  | n + 1, e => by simp [zrg, len_zrg n (e + 1)]
theorem nd_zrg : ∀ (n e : Nat), va_nd (zrg e n) = true
  | 0, e => rfl
  | n + 1, e => by
    have h : e ∉ zrg (e + 1) n := fun h => by have := mem_zrg n (e + 1) e h; omega
    simp [zrg, va_nd, h, nd_zrg n (e + 1)]
theorem nd_app : ∀ (i j : List Nat), va_nd i = true → va_nd j = true → (∀ x ∈ i, x ∉ j) → va_nd (i ++ j) = true
  | [], j, _, h2, _ => h2
  | a :: i, j, h1, h2, h3 => by
    simp only [va_nd, Bool.and_eq_true, decide_eq_true_eq] at h1
    have ha : a ∉ i ++ j := fun h => (List.mem_append.mp h).elim h1.1 (h3 a List.mem_cons_self)
    simp only [List.cons_append, va_nd, Bool.and_eq_true, decide_eq_true_eq]
    exact ⟨ha, nd_app i j h1.2 h2 (fun x hx => h3 x (List.mem_cons_of_mem _ hx))⟩
theorem map_zrg (S : va_W) : ∀ (b E : va_W), (zrg E.length b.length).map (fun i => (E ++ (b ++ S))[i]?) = b.map some
  | [], E => rfl
  | x :: b, E => by
    have h := map_zrg S b (E ++ [x])
    rw [List.length_append] at h
    simp only [List.length_cons, zrg, List.map_cons]
    congr 1
    · simp
    · simpa using h
theorem zset_mid (S : va_W) : ∀ (b b' E : va_W), b.length = b'.length → zset (E ++ (b ++ S)) (zrg E.length b.length) b' = E ++ (b' ++ S)
  | [], [], E, _ => rfl
  | [], _ :: _, E, h => by cases h
  | _ :: _, [], E, h => by cases h
  | x :: b, y :: b', E, h => by
    have ih := zset_mid S b b' (E ++ [y]) (Nat.succ.inj h)
    rw [List.length_append] at ih
    simp only [List.length_cons, zrg, zset]
    rw [show (E ++ (x :: b ++ S)).set E.length y = (E ++ [y]) ++ (b ++ S) by simp]
    simpa using ih
theorem zset_app : ∀ (i1 i2 : List Nat) (q1 q2 ws : va_W), i1.length = q1.length → zset ws (i1 ++ i2) (q1 ++ q2) = zset (zset ws i1 q1) i2 q2
  | [], i2, [], q2, ws, _ => by cases i2 <;> rfl
  | [], _, _ :: _, _, _, h => by cases h
  | _ :: _, _, [], _, _, h => by cases h
  | i :: i1, i2, q :: q1, q2, ws, h => by
    simp only [List.cons_append, zset]
    exact zset_app i1 i2 q1 q2 _ (Nat.succ.inj h)
theorem zset_len : ∀ (is : List Nat) (qs ws : va_W), (zset ws is qs).length = ws.length
  | [], qs, ws => by cases qs <;> rfl
  | _ :: _, [], ws => rfl
  | i :: is, q :: qs, ws => by simp only [zset]; rw [zset_len is qs]; simp
theorem zset_left (B : va_W) : ∀ (is : List Nat) (qs ex : va_W), (∀ i ∈ is, i < ex.length) → zset (ex ++ B) is qs = zset ex is qs ++ B
  | [], qs, ex, _ => by cases qs <;> rfl
  | _ :: _, [], ex, _ => rfl
  | i :: is, q :: qs, ex, h => by
    simp only [zset]
    rw [List.set_append_left i q (h i List.mem_cons_self)]
    exact zset_left B is qs (ex.set i q) (fun j hj => by rw [List.length_set]; exact h j (List.mem_cons_of_mem _ hj))
theorem map_left (B : va_W) (is : List Nat) (ex : va_W) (h : ∀ i ∈ is, i < ex.length) : is.map (fun i => (ex ++ B)[i]?) = is.map (fun i => ex[i]?) :=
  List.map_congr_left (fun i hi => List.getElem?_append_left (h i hi))
theorem lt_of_map {is : List Nat} {ex w : va_W} (h : is.map (fun i => ex[i]?) = w.map some) : ∀ i ∈ is, i < ex.length := by
  intro i hi
  obtain ⟨j, hj⟩ := List.getElem?_of_mem hi
  obtain ⟨q, -, h2⟩ := z_map_at2 h j i hj
  exact (List.getElem?_eq_some_iff.mp h2).1
section ZBK
variable {ex exc exc' B B' P b b' S : va_W} {is : List Nat} {L n : Nat}
/-! a whole block behind, handed on -/
theorem zB_C (hC : is.map (fun i => ex[i]?) = exc.map some) (hL : ex.length = L) (hn : B.length = n) : (is ++ zrg L n).map (fun i => (ex ++ B)[i]?) = (exc ++ B).map some := by
  subst hL; subst hn
  rw [List.map_append, List.map_append, map_left B is ex (lt_of_map hC), hC]
  have h := map_zrg [] B ex
  rw [List.append_nil] at h
  rw [h]
theorem zB_n (hlt : ∀ i ∈ is, i < L) (hd : va_nd is = true) : va_nd (is ++ zrg L n) = true := by
  refine nd_app _ _ hd (nd_zrg _ _) (fun x hx h => ?_)
  have h1 := hlt x hx
  have h2 := mem_zrg _ _ _ h
  omega
theorem zB_adr {f : Nat × va_E → Nat} (h1 : exc'.map f = exc.map f) (h2 : B'.map f = B.map f) : (exc' ++ B').map f = (exc ++ B).map f := by
  rw [List.map_append, List.map_append, h1, h2]
theorem zB_set (hC : is.map (fun i => ex[i]?) = exc.map some) (hl : exc'.length = exc.length) (hL : ex.length = L) (hn : B.length = n) (hn' : B'.length = n) : zset (ex ++ B) (is ++ zrg L n) (exc' ++ B') = zset ex is exc' ++ B' := by
  subst hL; subst hn
  rw [zset_app _ _ _ _ _ ((z_len hC).trans hl.symm), zset_left B is exc' ex (lt_of_map hC)]
  have h := zset_mid [] B B' (zset ex is exc') hn'.symm
  rw [List.append_nil, List.append_nil, zset_len] at h
  exact h
/-! one block out of the middle, ahead of what is picked .. -/
theorem zM_C1 (hC : is.map (fun i => ex[i]?) = exc.map some) (hL : ex.length = L) (hn : b.length = n) : (zrg (L + P.length) n ++ is).map (fun i => (ex ++ (P ++ (b ++ S)))[i]?) = (b ++ exc).map some := by
  subst hL; subst hn
  rw [List.map_append, List.map_append, map_left _ is ex (lt_of_map hC), hC]
  have h := map_zrg S b (ex ++ P)
  rw [List.length_append, List.append_assoc] at h
  rw [h]
theorem zM_n1 (hlt : ∀ i ∈ is, i < L) (hd : va_nd is = true) : va_nd (zrg (L + P.length) n ++ is) = true := by
  refine nd_app _ _ (nd_zrg _ _) hd (fun x h hx => ?_)
  have h1 := hlt x hx
  have h2 := mem_zrg _ _ _ h
  omega
theorem zM_set1 (hC : is.map (fun i => ex[i]?) = exc.map some) (hL : ex.length = L) (hn : b.length = n) (hn' : b'.length = n) : zset (ex ++ (P ++ (b ++ S))) (zrg (L + P.length) n ++ is) (b' ++ exc') = zset ex is exc' ++ (P ++ (b' ++ S)) := by
  subst hL; subst hn
  have h := zset_mid S b b' (ex ++ P) hn'.symm
  rw [List.length_append, List.append_assoc, List.append_assoc] at h
  rw [zset_app _ _ _ _ _ ((len_zrg _ _).trans hn'.symm), h, zset_left _ is exc' ex (lt_of_map hC)]
/-! .. or behind it -/
theorem zM_C2 (hC : is.map (fun i => ex[i]?) = exc.map some) (hL : ex.length = L) (hn : b.length = n) : (is ++ zrg (L + P.length) n).map (fun i => (ex ++ (P ++ (b ++ S)))[i]?) = (exc ++ b).map some := by
  subst hL; subst hn
  rw [List.map_append, List.map_append, map_left _ is ex (lt_of_map hC), hC]
  have h := map_zrg S b (ex ++ P)
  rw [List.length_append, List.append_assoc] at h
  rw [h]
theorem zM_n2 (hlt : ∀ i ∈ is, i < L) (hd : va_nd is = true) : va_nd (is ++ zrg (L + P.length) n) = true := by
  refine nd_app _ _ hd (nd_zrg _ _) (fun x hx h => ?_)
  have h1 := hlt x hx
  have h2 := mem_zrg _ _ _ h
  omega
theorem zM_set2 (hC : is.map (fun i => ex[i]?) = exc.map some) (hl : exc'.length = exc.length) (hL : ex.length = L) (hn : b.length = n) (hn' : b'.length = n) : zset (ex ++ (P ++ (b ++ S))) (is ++ zrg (L + P.length) n) (exc' ++ b') = zset ex is exc' ++ (P ++ (b' ++ S)) := by
  subst hL; subst hn
  rw [zset_app _ _ _ _ _ ((z_len hC).trans hl.symm), zset_left _ is exc' ex (lt_of_map hC)]
  have h := zset_mid S b b' (zset ex is exc' ++ P) hn'.symm
  rw [List.length_append, zset_len, List.append_assoc, List.append_assoc] at h
  exact h
theorem zM_at (hL : ex.length = L) (x : Nat × va_E) (b1 : va_W) : (ex ++ (P ++ ((x :: b1) ++ S)))[L + P.length]? = some x := by
  subst hL
  rw [← List.append_assoc, List.getElem?_append_right (by rw [List.length_append]; exact Nat.le_refl _), List.length_append]
  simp
variable {D : va_G} {cl : List vw_C} {H : Heap} {A : Nat → Prop} {w' : va_W}
theorem zB_P (h : va_P D cl (zset (ex ++ B) (is ++ zrg L n) (exc' ++ B')) H) (hC : is.map (fun i => ex[i]?) = exc.map some) (hl : exc'.length = exc.length) (hL : ex.length = L) (hn : B.length = n) (hn' : B'.length = n) : va_P D cl (zset ex is exc' ++ B') H := by
  rw [← zB_set hC hl hL hn hn']; exact h
theorem zB_D (h : va_D A (zset (ex ++ B) (is ++ zrg L n) (exc' ++ B'))) (hC : is.map (fun i => ex[i]?) = exc.map some) (hl : exc'.length = exc.length) (hL : ex.length = L) (hn : B.length = n) (hn' : B'.length = n) : va_D A (zset ex is exc' ++ B') := by
  rw [← zB_set hC hl hL hn hn']; exact h
theorem zM_P1 (h : va_P D cl (zset (ex ++ (P ++ (b ++ S))) (zrg (L + P.length) n ++ is) w') H) (hw : w' = b' ++ exc') (hC : is.map (fun i => ex[i]?) = exc.map some) (hL : ex.length = L) (hn : b.length = n) (hn' : b'.length = n) : va_P D cl (zset ex is exc' ++ (P ++ (b' ++ S))) H := by
  rw [← zM_set1 hC hL hn hn', ← hw]; exact h
theorem zM_D1 (h : va_D A (zset (ex ++ (P ++ (b ++ S))) (zrg (L + P.length) n ++ is) w')) (hw : w' = b' ++ exc') (hC : is.map (fun i => ex[i]?) = exc.map some) (hL : ex.length = L) (hn : b.length = n) (hn' : b'.length = n) : va_D A (zset ex is exc' ++ (P ++ (b' ++ S))) := by
  rw [← zM_set1 hC hL hn hn', ← hw]; exact h
theorem zM_P2 (h : va_P D cl (zset (ex ++ (P ++ (b ++ S))) (is ++ zrg (L + P.length) n) w') H) (hw : w' = exc' ++ b') (hC : is.map (fun i => ex[i]?) = exc.map some) (hl : exc'.length = exc.length) (hL : ex.length = L) (hn : b.length = n) (hn' : b'.length = n) : va_P D cl (zset ex is exc' ++ (P ++ (b' ++ S))) H := by
  rw [← zM_set2 hC hl hL hn hn', ← hw]; exact h
theorem zM_D2 (h : va_D A (zset (ex ++ (P ++ (b ++ S))) (is ++ zrg (L + P.length) n) w')) (hw : w' = exc' ++ b') (hC : is.map (fun i => ex[i]?) = exc.map some) (hl : exc'.length = exc.length) (hL : ex.length = L) (hn : b.length = n) (hn' : b'.length = n) : va_D A (zset ex is exc' ++ (P ++ (b' ++ S))) := by
  rw [← zM_set2 hC hl hL hn hn', ← hw]; exact h
end ZBK
/-- a machine's cells, its contents by kinds: arrays 0 to 7, numbers in row 8; counters in nu -/
def zmc (cI : ClassId) (q : Nat → Nat) (a0 : Nat) (mu : Nat → Nat → Int32) (nu : Nat → Nat) (rdt rrs : Int32) : va_W := [(q 0, .inr (8, [.ref (q 1), .ref (q 4), .ref (q 9), .ref (q 10), .int (nI (nu 0)), .int (mu 8 2), .int (nI (nu 1)), .int (mu 8 3), .int (mu 8 4), .int (mu 8 5), .int (mu 8 6), .int rdt, .int rrs, .ref a0])), (q 1, .inr (4, [.ref (q 2), .ref (q 3), .int (mu 8 0), .int (mu 8 1)])), (q 2, .inl (cI, 24, .inl (mu 0))), (q 3, .inl (cI, 24, .inl (mu 1))), (q 4, .inr (6, [.ref (q 5), .ref (q 6), .ref (q 7), .ref (q 8), .int (nI (nu 2))])), (q 5, .inl (cI, 30, .inl (mu 2))), (q 6, .inl (cI, 30, .inl (mu 3))), (q 7, .inl (cI, 30, .inl (mu 4))), (q 8, .inl (cI, 30, .inl (mu 5))), (q 9, .inl (cI, 4, .inl (mu 6))), (q 10, .inl (cI, 6, .inl (mu 7)))]
theorem zmc_len (cI : ClassId) (q : Nat → Nat) (a0 : Nat) (mu : Nat → Nat → Int32) (nu : Nat → Nat) (rdt rrs : Int32) : (zmc cI q a0 mu nu rdt rrs).length = 11 := rfl
def zHW (cI : ClassId) (q : Nat → Nat → Nat) (a0 : Nat) (hm : Nat → Nat → Nat → Int32) (hn : Nat → Nat → Nat) : va_W := zmc cI (q 0) a0 (hm 0) (hn 0) 0 0 ++ (zmc cI (q 1) a0 (hm 1) (hn 1) 0 0 ++ (zmc cI (q 2) a0 (hm 2) (hn 2) 0 0 ++ (zmc cI (q 3) a0 (hm 3) (hn 3) 0 0 ++ (zmc cI (q 4) a0 (hm 4) (hn 4) 0 0 ++ (zmc cI (q 5) a0 (hm 5) (hn 5) 0 0 ++ (zmc cI (q 6) a0 (hm 6) (hn 6) 0 0 ++ (zmc cI (q 7) a0 (hm 7) (hn 7) 0 0 ++ [])))))))
theorem zHW_len (cI : ClassId) (q : Nat → Nat → Nat) (a0 : Nat) (hm : Nat → Nat → Nat → Int32) (hn : Nat → Nat → Nat) : (zHW cI q a0 hm hn).length = 88 := rfl
theorem zmc_adr (cI : ClassId) (q : Nat → Nat) (a0 : Nat) (mu mu' : Nat → Nat → Int32) (nu nu' : Nat → Nat) (rdt rrs rdt' rrs' : Int32) : (zmc cI q a0 mu nu rdt rrs).map (·.1) = (zmc cI q a0 mu' nu' rdt' rrs').map (·.1) := Eq.trans (b := [q 0, q 1, q 2, q 3, q 4, q 5, q 6, q 7, q 8, q 9, q 10]) rfl rfl
theorem zmc_a (cI : ClassId) (q : Nat → Nat) (a0 : Nat) (mu : Nat → Nat → Int32) (nu : Nat → Nat) (rdt rrs : Int32) : (zmc cI q a0 mu nu rdt rrs).map (fun x => x.1) = [q 0, q 1, q 2, q 3, q 4, q 5, q 6, q 7, q 8, q 9, q 10] := rfl
theorem zHW_adr (cI : ClassId) (q : Nat → Nat → Nat) (a0 : Nat) (hm hm' : Nat → Nat → Nat → Int32) (hn hn' : Nat → Nat → Nat) : (zHW cI q a0 hm hn).map (·.1) = (zHW cI q a0 hm' hn').map (·.1) := by
  simp only [zHW, List.map_append, zmc_a]
theorem z8or {k : Nat} (h : k < 8) : k = 0 ∨ k = 1 ∨ k = 2 ∨ k = 3 ∨ k = 4 ∨ k = 5 ∨ k = 6 ∨ k = 7 := by omega
theorem zHW_at (cI : ClassId) (q : Nat → Nat → Nat) (a0 : Nat) (hm : Nat → Nat → Nat → Int32) (hn : Nat → Nat → Nat) {k : Nat} (hk : k < 8) : ∃ P S, zHW cI q a0 hm hn = P ++ (zmc cI (q k) a0 (hm k) (hn k) 0 0 ++ S) ∧ ∀ mu nu, zHW cI q a0 (va_up hm k mu) (va_up hn k nu) = P ++ (zmc cI (q k) a0 mu nu 0 0 ++ S) := by
  rcases z8or hk with rfl | rfl | rfl | rfl | rfl | rfl | rfl | rfl
  · exact ⟨[], _, rfl, fun mu nu => rfl⟩
  · exact ⟨zmc cI (q 0) a0 (hm 0) (hn 0) 0 0, _, rfl, fun mu nu => rfl⟩
  · exact ⟨zmc cI (q 0) a0 (hm 0) (hn 0) 0 0 ++ zmc cI (q 1) a0 (hm 1) (hn 1) 0 0, _, rfl, fun mu nu => rfl⟩
  · exact ⟨zmc cI (q 0) a0 (hm 0) (hn 0) 0 0 ++ (zmc cI (q 1) a0 (hm 1) (hn 1) 0 0 ++ zmc cI (q 2) a0 (hm 2) (hn 2) 0 0), _, rfl, fun mu nu => rfl⟩
  · exact ⟨zmc cI (q 0) a0 (hm 0) (hn 0) 0 0 ++ (zmc cI (q 1) a0 (hm 1) (hn 1) 0 0 ++ (zmc cI (q 2) a0 (hm 2) (hn 2) 0 0 ++ zmc cI (q 3) a0 (hm 3) (hn 3) 0 0)), _, rfl, fun mu nu => rfl⟩
  · exact ⟨zmc cI (q 0) a0 (hm 0) (hn 0) 0 0 ++ (zmc cI (q 1) a0 (hm 1) (hn 1) 0 0 ++ (zmc cI (q 2) a0 (hm 2) (hn 2) 0 0 ++ (zmc cI (q 3) a0 (hm 3) (hn 3) 0 0 ++ zmc cI (q 4) a0 (hm 4) (hn 4) 0 0))), _, rfl, fun mu nu => rfl⟩
  · exact ⟨zmc cI (q 0) a0 (hm 0) (hn 0) 0 0 ++ (zmc cI (q 1) a0 (hm 1) (hn 1) 0 0 ++ (zmc cI (q 2) a0 (hm 2) (hn 2) 0 0 ++ (zmc cI (q 3) a0 (hm 3) (hn 3) 0 0 ++ (zmc cI (q 4) a0 (hm 4) (hn 4) 0 0 ++ zmc cI (q 5) a0 (hm 5) (hn 5) 0 0)))), _, rfl, fun mu nu => rfl⟩
  · exact ⟨zmc cI (q 0) a0 (hm 0) (hn 0) 0 0 ++ (zmc cI (q 1) a0 (hm 1) (hn 1) 0 0 ++ (zmc cI (q 2) a0 (hm 2) (hn 2) 0 0 ++ (zmc cI (q 3) a0 (hm 3) (hn 3) 0 0 ++ (zmc cI (q 4) a0 (hm 4) (hn 4) 0 0 ++ (zmc cI (q 5) a0 (hm 5) (hn 5) 0 0 ++ zmc cI (q 6) a0 (hm 6) (hn 6) 0 0))))), _, rfl, fun mu nu => rfl⟩
