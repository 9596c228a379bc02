/-! the law's walk, over worlds that an invariant I ties together -/
section ZLAW
/-- the answers that lie in the rows of the law -/
def zOut (ow : Nat) (cy : Nat → ClassId) (w' : va_W) (z : Int64) : Prop := ∃ f : Nat → Int64, w'[47]? = some (ow, .inl (cy 3, 1, .inr (.inl f))) ∧ f (0 : Int32).toNatClampNeg = z
def zOutD (od : Nat) (cy : Nat → ClassId) (w' : va_W) (P : UInt64 → Prop) : Prop := ∃ f : Nat → UInt64, w'[48]? = some (od, .inl (cy 4, 1, .inr (.inr (.inr (.inl f))))) ∧ P (f (0 : Int32).toNatClampNeg)
def zHd (x0 x9 : Nat) (w m : va_W) : Prop := (∃ fs, w[0]? = some (x0, .inr (9, fs))) ∧ ∃ fs, m[0]? = some (x9, .inr (10, fs))
def zThr (G : zG) (D : va_G) (cy : Nat → ClassId) (l : Launch) (x9 : Nat) (m : va_W) (k : Int32) : Prop := zC G D vwCl (zT cy) l yX6_thrown wsX6_thrown rmBM [.ref x9] m (fun m2 o2 => m2 = m ∧ o2 = some (.int k)) 0 0
/-- a call of a wrapper and of the model: relations tell both, and what they have in common -/
def zArmS (G : zG) (D : va_G) (cy : Nat → ClassId) (l : Launch) (I : va_W → va_W → Prop) (x9 : Nat) (yL : MethodName) (wsL : List Cond) (asL : List Value) (yM : MethodName) (wsM : List Cond) (asM : List Value) (Out : va_W → Int32 → Prop) (w m : va_W) : Prop :=
  ∃ Φ Ψ : va_W → Int32 → Prop, zC G D vwCl (zT cy) l yL wsL rmBX asL w (fun w' o => ∃ k : Int32, o = some (.int k) ∧ Φ w' k) 2 96 ∧ zC G D vwCl (zT cy) l yM wsM rmBM asM m (fun m' o => ∃ b : Int32, o = some (.int b) ∧ Ψ m' b) 0 0 ∧
    ∀ w' k m' b, Φ w' k → Ψ m' b → zThr G D cy l x9 m' k ∧ (k = 0 → Out w' b) ∧ I w' m'
def zArmD (G : zG) (D : va_G) (cy : Nat → ClassId) (l : Launch) (I : va_W → va_W → Prop) (yL : MethodName) (wsL : List Cond) (asL : List Value) (yM : MethodName) (wsM : List Cond) (asM : List Value) (w m : va_W) : Prop :=
  ∃ Φ Ψ : va_W → Int32 → Prop, zC G D vwCl (zT cy) l yL wsL rmBX asL w (fun w' o => ∃ k : Int32, o = some (.int k) ∧ Φ w' k) 2 96 ∧ zC G D vwCl (zT cy) l yM wsM rmBM asM m (fun m' o => ∃ b : Int32, o = some (.int b) ∧ Ψ m' b) 0 0 ∧
    ∀ w' k m' b, Φ w' k → Ψ m' b → k = b ∧ I w' m'
def zArmDb (G : zG) (D : va_G) (cy : Nat → ClassId) (l : Launch) (I : va_W → va_W → Prop) (x9 : Nat) (yL : MethodName) (wsL : List Cond) (asL : List Value) (yM : MethodName) (wsM : List Cond) (asM : List Value) (Out : va_W → UInt64 → Prop) (w m : va_W) : Prop :=
  ∃ (Φ : va_W → Int32 → Prop) (Ψ : va_W → UInt64 → Prop), zC G D vwCl (zT cy) l yL wsL rmBX asL w (fun w' o => ∃ k : Int32, o = some (.int k) ∧ Φ w' k) 2 96 ∧ zC G D vwCl (zT cy) l yM wsM rmBM asM m (fun m' o => ∃ b : UInt64, o = some (.double b) ∧ Ψ m' b) 0 0 ∧
    ∀ w' k m' b, Φ w' k → Ψ m' b → zThr G D cy l x9 m' k ∧ (k = 0 → Out w' b) ∧ I w' m'
def zArmFl (G : zG) (D : va_G) (cy : Nat → ClassId) (l : Launch) (I : va_W → va_W → Prop) (x9 : Nat) (yL : MethodName) (wsL : List Cond) (asL : List Value) (yM : MethodName) (wsM : List Cond) (asM : List Value) (Out : va_W → UInt32 → Prop) (w m : va_W) : Prop :=
  ∃ (Φ : va_W → Int32 → Prop) (Ψ : va_W → UInt32 → Prop), zC G D vwCl (zT cy) l yL wsL rmBX asL w (fun w' o => ∃ k : Int32, o = some (.int k) ∧ Φ w' k) 2 96 ∧ zC G D vwCl (zT cy) l yM wsM rmBM asM m (fun m' o => ∃ b : UInt32, o = some (.float b) ∧ Ψ m' b) 0 0 ∧
    ∀ w' k m' b, Φ w' k → Ψ m' b → zThr G D cy l x9 m' k ∧ (k = 0 → Out w' b) ∧ I w' m'
theorem lg_cmp_rf {x y : Int64} (h : x = y) : lg_cmp x y = 0 := by subst h; unfold lg_cmp; simp
theorem z_inl {w r : va_W} {k : Nat} {x : Nat × va_E} (h : w[k]? = some x) : (w ++ r)[k]? = some x := by rw [List.getElem?_append_left (List.getElem?_eq_some_iff.mp h).1]; exact h
end ZLAW
