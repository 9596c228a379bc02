/-! places written anew, told cell by cell -/
def zlk : List Nat → va_W → Nat → (Nat × va_E) → (Nat × va_E)
  | i :: is, q :: qs, k, x => match Nat.beq i k with | true => q | false => zlk is qs k x
  | _, _, _, x => x
def zput : Nat → Nat → va_W → List Nat → va_W → va_W
  | 0, _, ws, _, _ => ws
  | n + 1, k, x :: ws, is, qs => zlk is qs k x :: zput n (k + 1) ws is qs
  | _ + 1, _, [], _, _ => []
theorem zlk_no : ∀ (is : List Nat) (qs : va_W) (k : Nat) (x : Nat × va_E), k ∉ is → zlk is qs k x = x
  | [], qs, k, x, _ => by cases qs <;> rfl
  | _ :: _, [], k, x, _ => rfl
  | i :: is, q :: qs, k, x, h => by
    have h1 : Nat.beq i k = false := by
      have : i ≠ k := fun z => h (by rw [z]; exact List.mem_cons_self)
      cases hh : Nat.beq i k with
      | false => rfl
      | true => exact absurd (Nat.eq_of_beq_eq_true hh) this
    simp only [zlk, h1]
    exact zlk_no is qs k x (fun z => h (List.mem_cons_of_mem _ z))
theorem zset_lk : ∀ (is : List Nat) (qs ws : va_W) (j : Nat), va_nd is = true → (zset ws is qs)[j]? = ws[j]?.map (zlk is qs j)
  | [], qs, ws, j, _ => by
    have : zset ws [] qs = ws := by cases qs <;> rfl
    rw [this]
    cases ws[j]? with
    | none => rfl
    | some x => simp [zlk_no [] qs j x List.not_mem_nil]
  | _ :: _, [], ws, j, _ => by
    simp only [zset]
    cases ws[j]? with
    | none => rfl
    | some x => rfl
  | i :: is, q :: qs, ws, j, hn => by
    simp only [va_nd, Bool.and_eq_true, decide_eq_true_eq] at hn
    simp only [zset]
    rw [zset_lk is qs (ws.set i q) j hn.2]
    by_cases h : i = j
    · subst h
      rw [List.getElem?_set]
      by_cases hl : i < ws.length
      · simp only [hl, ↓reduceIte]
        rw [List.getElem?_eq_getElem hl]
        simp [zlk, zlk_no is qs i q hn.1]
      · simp only [hl, ↓reduceIte]
        rw [List.getElem?_eq_none (by omega)]
        rfl
    · rw [List.getElem?_set_ne h]
      have h1 : Nat.beq i j = false := by
        cases hh : Nat.beq i j with
        | false => rfl
        | true => exact absurd (Nat.eq_of_beq_eq_true hh) h
      cases ws[j]? with
      | none => rfl
      | some x => simp [zlk, h1]
theorem zput_lk : ∀ (n k : Nat) (ws : va_W) (is : List Nat) (qs : va_W) (j : Nat), (zput n k ws is qs)[j]? = if j < n then ws[j]?.map (zlk is qs (k + j)) else ws[j]?
  | 0, k, ws, is, qs, j => by simp [zput]
  | n + 1, k, [], is, qs, j => by simp [zput]
  | n + 1, k, x :: ws, is, qs, 0 => by simp [zput]
  | n + 1, k, x :: ws, is, qs, j + 1 => by
    simp only [zput, List.getElem?_cons_succ]
    rw [zput_lk n (k + 1) ws is qs j, show k + 1 + j = k + (j + 1) by omega]
    by_cases h : j < n
    · simp [h]
    · simp [h]
theorem zput_eq {n : Nat} {ws qs : va_W} {is : List Nat} (hn : va_nd is = true) (hb : is.all (fun i => Nat.blt i n) = true) : zput n 0 ws is qs = zset ws is qs := by
  apply List.ext_getElem?
  intro j
  rw [zput_lk, zset_lk is qs ws j hn]
  by_cases h : j < n
  · simp [h]
  · rw [if_neg h]
    have hj : j ∉ is := fun z => by
      have := List.all_eq_true.mp hb j z
      have := Nat.le_of_ble_eq_true this
      omega
    cases ws[j]? with
    | none => rfl
    | some x => simp [zlk_no is qs j x hj]
section ZFA
variable {D : va_G} {cl : List vw_C} {H : Heap} {A : Nat → Prop} {n : Nat} {ws qs B : va_W} {is : List Nat}
theorem zput_P (hn : va_nd is = true) (hb : is.all (fun i => Nat.blt i n) = true) (hP : va_P D cl (zset ws is qs) H) : va_P D cl (zput n 0 ws is qs) H := by rw [zput_eq hn hb]; exact hP
theorem zput_D (hn : va_nd is = true) (hb : is.all (fun i => Nat.blt i n) = true) (hD : va_D A (zset ws is qs)) : va_D A (zput n 0 ws is qs) := by rw [zput_eq hn hb]; exact hD
theorem zputB_P (hn : va_nd is = true) (hb : is.all (fun i => Nat.blt i n) = true) (hP : va_P D cl (zset ws is qs ++ B) H) : va_P D cl (zput n 0 ws is qs ++ B) H := by rw [zput_eq hn hb]; exact hP
theorem zputB_D (hn : va_nd is = true) (hb : is.all (fun i => Nat.blt i n) = true) (hD : va_D A (zset ws is qs ++ B)) : va_D A (zput n 0 ws is qs ++ B) := by rw [zput_eq hn hb]; exact hD
end ZFA
