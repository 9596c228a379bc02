/-- private methods of StringBuilder's base class, called on a StringBuilder: what the tables don't say by themselves -/
def zx3 : List Cond := [Cond.selects RJ4 ⟨"java/lang/AbstractStringBuilder", "ensureCapacityInternal", "(I)V"⟩ yJ5_ensureCapacityInternal_d00df, Cond.selects RJ4 ⟨"java/lang/AbstractStringBuilder", "newCapacity", "(I)I"⟩ yJ5_newCapacity_0f7a4, Cond.selects RJ4 ⟨"java/lang/AbstractStringBuilder", "inflate", "()V"⟩ yJ5_inflate_da8c8]
theorem zsel_priv {s : State} {args : Array Value} {C : String} {x y : MethodName} (hy : y.cls ≠ "java/lang/invoke/MethodHandle" ∧ y.cls ≠ "java/lang/invoke/VarHandle") (hx : (Cond.selects C x x).before args s = true) (hxy : x.cls = y.cls) (hpriv : (Cond.privateMethod y).before args s = true) (hinst : (Cond.instanceMethod y).before args s = true) : (Cond.selects C y y).before args s = true := by
  obtain ⟨c, r, m, hc, hr, hm, hs, km, hkm, hni⟩ := Cond.selects_spec (args := args) (first := s) (o := none) (s := s) (idx := []) hx
  obtain ⟨mk, methM, hnamed, hmethM, -, -⟩ := Cond.instanceMethod_spec hinst
  have hfound : s.methodFound? y.cls y.name y.desc = some mk := State.methodFound?_of_named hnamed hy
  have h1 := findClass_of_methodNamed hnamed
  have h2 := findClass_of_methodNamed hm
  rw [hxy] at h2
  have e : mk.cls = m.cls := Option.some.inj (h1.symm.trans h2)
  have hsel : selectMethod {} s.vm c mk = .method mk := selectMethod_private hmethM (Cond.privateMethod_at hpriv mk methM hnamed hmethM)
  simp only [Cond.before, Cond.holds, Cond.value, hc, hfound, hnamed, hsel, e, hkm]
  simp; exact hni
theorem zx3_at {args : Array Value} {s : State} (hts : ∀ w ∈ lw_tbl, w.before args s = true) : ∀ w ∈ zx3 ++ lw_tbl, w.before args s = true := by
  intro w hw
  have hl : (Cond.selects "java/lang/StringBuilder" ⟨"java/lang/AbstractStringBuilder", "isLatin1", "()Z"⟩ ⟨"java/lang/AbstractStringBuilder", "isLatin1", "()Z"⟩).before args s = true := hts _ (by decide +kernel)
  rcases List.mem_append.mp hw with h | h
  · rcases List.mem_cons.mp h with rfl | h
    · exact zsel_priv (C := "java/lang/StringBuilder") (by decide) hl rfl (hts (.privateMethod yJ5_ensureCapacityInternal_d00df) (by decide +kernel)) (hts (.instanceMethod yJ5_ensureCapacityInternal_d00df) (by decide +kernel))
    · rcases List.mem_cons.mp h with rfl | h
      · exact zsel_priv (C := "java/lang/StringBuilder") (by decide) hl rfl (hts (.privateMethod yJ5_newCapacity_0f7a4) (by decide +kernel)) (hts (.instanceMethod yJ5_newCapacity_0f7a4) (by decide +kernel))
      · rcases List.mem_cons.mp h with rfl | h
        · exact zsel_priv (C := "java/lang/StringBuilder") (by decide) hl rfl (hts (.privateMethod yJ5_inflate_da8c8) (by decide +kernel)) (hts (.instanceMethod yJ5_inflate_da8c8) (by decide +kernel))
        · exact absurd h List.not_mem_nil
  · exact hts w h
theorem zt_31 : ∀ w ∈ wsL_law0_r31, w ∈ lw_tbl := by decide +kernel
theorem zt_32 : ∀ w ∈ wsL_law0_r32, w ∈ lw_tbl := by decide +kernel
theorem zt_33 : ∀ w ∈ wsL_law0_r33, w ∈ lw_tbl := by decide +kernel
theorem zt_34 : ∀ w ∈ wsL_law0_r34, w ∈ lw_tbl := by decide +kernel
theorem zt_35 : ∀ w ∈ wsL_law0_r35, w ∈ lw_tbl := by decide +kernel
theorem zt_36 : ∀ w ∈ wsL_law0_r36, w ∈ lw_tbl := by decide +kernel
theorem zt_37 : ∀ w ∈ wsL_law0_r37, w ∈ lw_tbl := by decide +kernel
theorem zt_38 : ∀ w ∈ wsL_law0_r38, w ∈ lw_tbl := by decide +kernel
theorem zt_39 : ∀ w ∈ wsL_law0_r39, w ∈ lw_tbl := by decide +kernel
theorem zt_40 : ∀ w ∈ wsL_law0_r40, w ∈ lw_tbl := by decide +kernel
theorem zt_41 : ∀ w ∈ wsL_law0_r41, w ∈ lw_tbl := by decide +kernel
theorem zt_42 : ∀ w ∈ wsL_law0_r42, w ∈ lw_tbl := by decide +kernel
theorem zt_43 : ∀ w ∈ wsL_law0_r43, w ∈ lw_tbl := by decide +kernel
theorem zt_44 : ∀ w ∈ wsL_law0_r44, w ∈ lw_tbl := by decide +kernel
theorem zt_45 : ∀ w ∈ wsL_law0_r45, w ∈ lw_tbl := by decide +kernel
theorem zt_46 : ∀ w ∈ wsL_law0_r46, w ∈ lw_tbl := by decide +kernel
theorem zt_47 : ∀ w ∈ wsL_law0_r47, w ∈ lw_tbl := by decide +kernel
theorem zt_48 : ∀ w ∈ wsL_law0_r48, w ∈ zx3 ++ lw_tbl := by decide +kernel
theorem zt_49 : ∀ w ∈ wsL_law0_r49, w ∈ lw_tbl := by decide +kernel
theorem zt_50 : ∀ w ∈ wsL_law0_r50, w ∈ lw_tbl := by decide +kernel
theorem zt_51 : ∀ w ∈ wsL_law0_r51, w ∈ zx3 ++ lw_tbl := by decide +kernel
theorem zt_52 : ∀ w ∈ wsL_law0_r52, w ∈ lw_tbl := by decide +kernel
theorem zt_53 : ∀ w ∈ wsL_law0_r53, w ∈ lw_tbl := by decide +kernel
theorem zt_54 : ∀ w ∈ wsL_law0_r54, w ∈ lw_tbl := by decide +kernel
theorem zt_55 : ∀ w ∈ wsL_law0_r55, w ∈ lw_tbl := by decide +kernel
theorem zt_56 : ∀ w ∈ wsL_law0_r56, w ∈ lw_tbl := by decide +kernel
theorem zt_57 : ∀ w ∈ wsL_law0_r57, w ∈ lw_tbl := by decide +kernel
theorem zt_58 : ∀ w ∈ wsL_law0_r58, w ∈ lw_tbl := by decide +kernel
theorem zt_59 : ∀ w ∈ wsL_law0_r59, w ∈ lw_tbl := by decide +kernel
theorem zt_60 : ∀ w ∈ wsL_law0_r60, w ∈ lw_tbl := by decide +kernel
