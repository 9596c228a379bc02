/-- what the law's handlers link -/
def zLkW : List Cond := [.classLink RL 13 "java/lang/IndexOutOfBoundsException", .classLink RL 15 "java/lang/IllegalArgumentException", .classLink RL 17 "java/lang/UnsupportedOperationException", .classLink RL 53 "java/util/NoSuchElementException", .classLink RL 111 "java/lang/ArithmeticException", .classLink RL 128 "java/lang/IllegalStateException"]
def zGW (G : zG) : Prop := zGL G ∧ ∀ (A : Nat → Prop) (U : State), G A U → ∀ w ∈ zLkW, va_Nw w U
theorem zLk_ot : ∀ w ∈ zLkW, w.onTables = true := by decide +kernel
theorem zLk {G : zG} (hg : zGW G) {A : Nat → Prop} {s : State} (hG : G A s) {args : Array Value} {w : Cond} (h : w ∈ zLkW) : w.before args s = true := va_Nw.use (zLk_ot w h) (hg.2 A s hG w h)
