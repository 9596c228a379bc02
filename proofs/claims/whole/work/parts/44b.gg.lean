/-! what the class relies on, at the start and ever after -/
section ZGG
def zGG (ak av : Nat) : zG := fun A U =>
  va_Nw (.methodLinkNest RX0 31 yX5_hasBit RX5) U ∧ va_Nw (.methodLinkNest RX4 138 yX5_isNeedle RX5) U ∧ zTF A U ∧ zJF A U ∧ (∀ q ∈ zNcL, va_Nc q.1 q.2 U) ∧ (∀ w ∈ zLkW, va_Nw w U) ∧ zLit ak av A U ∧ va_AO RX4 U
theorem zLk_gd : ∀ w ∈ zLkW, (w.onTables && w.keeps) = true := by decide +kernel
theorem zBad_warm {u U : State} (hW : u.WarmedH U.vm) (h : ∀ w ∈ zBadW, va_Nw w u) : ∀ w ∈ zBadW, va_Nw w U := by
  intro w hw
  have h0 := h w hw
  unfold zBadW at hw
  rcases List.mem_append.mp hw with h1 | h1
  · rcases List.mem_cons.mp h1 with rfl | h2
    · exact va_Nw.warmD hW h0
    · rcases List.mem_cons.mp h2 with rfl | h3
      · exact va_Nw.warmD hW h0
      · rcases List.mem_cons.mp h3 with rfl | h4
        · exact va_Nw.warmD hW h0
        · exact absurd h4 List.not_mem_nil
  · obtain ⟨X, -, rfl⟩ := List.mem_map.mp h1
    exact va_Nw.warmC hW h0
theorem zGG_ok (ak av : Nat) : zOK (zGG ak av) := by
  refine ⟨?_, ?_, ?_⟩
  · intro A B U hAB h
    obtain ⟨h1, h2, ⟨t1, t2, t3, t4⟩, ⟨j1, j2, ⟨d1, j3, j4⟩, ⟨d2, j5, j6⟩⟩, h5, h6, ⟨l1, l2, l3, l4, l5⟩, h8⟩ := h
    exact ⟨h1, h2, ⟨t1, t2.narrow hAB, t3.narrow hAB, t4⟩, ⟨j1.narrow hAB, j2.narrow hAB, ⟨d1, j3.narrow hAB, j4.narrow hAB⟩, ⟨d2, j5.narrow hAB, j6.narrow hAB⟩⟩, h5, h6, ⟨l1, l2.narrow hAB, l3.narrow hAB, l4.narrow hAB, l5.narrow hAB⟩, h8⟩
  · intro A u U hW hk h
    have hv := hW.alike
    obtain ⟨h1, h2, ⟨t1, t2, t3, t4⟩, ⟨j1, j2, ⟨d1, j3, j4⟩, ⟨d2, j5, j6⟩⟩, h5, h6, ⟨l1, l2, l3, l4, l5⟩, h8⟩ := h
    exact ⟨va_Nw.warmM hW h1, va_Nw.warmM hW h2, ⟨zBad_warm hW t1, (t2.moved hv).kept hk, (t3.moved hv).kept hk, fun q hq => by
      obtain ⟨sa, h9⟩ := t4 q hq
      exact ⟨sa, h9.warm hW⟩⟩, ⟨(j1.moved hv).kept hk, (j2.moved hv).kept hk, ⟨d1, (j3.moved hv).kept hk, (j4.moved hv).kept hk⟩, ⟨d2, (j5.moved hv).kept hk, (j6.moved hv).kept hk⟩⟩, fun q hq => (h5 q hq).moved hv, fun w hw => word_at hW (Or.inl (zLk_gd w hw)) (h6 w hw), ⟨l1.warm hW, (l2.moved hv).kept hk, (l3.moved hv).kept hk, (l4.moved hv).kept hk, (l5.moved hv).kept hk⟩, h8.moved hv⟩
  · intro A u U hvm hh h
    have hv : u.vm.Alike U.vm := by rw [hvm]; exact Vm.Alike.refl u.vm
    have hk : ∀ q, q < u.heap.size → ¬ A q → U.heap[q]? = u.heap[q]? := fun q _ _ => by rw [hh]
    obtain ⟨h1, h2, ⟨t1, t2, t3, t4⟩, ⟨j1, j2, ⟨d1, j3, j4⟩, ⟨d2, j5, j6⟩⟩, h5, h6, ⟨l1, l2, l3, l4, l5⟩, h8⟩ := h
    exact ⟨va_Nw.same rfl hvm.symm h1, va_Nw.same rfl hvm.symm h2, ⟨fun w hw => va_Nw.same (zBad_ot w hw) hvm.symm (t1 w hw), (t2.moved hv).kept hk, (t3.moved hv).kept hk, fun q hq => by
      obtain ⟨sa, h9⟩ := t4 q hq
      exact ⟨sa, h9.same hvm⟩⟩, ⟨(j1.moved hv).kept hk, (j2.moved hv).kept hk, ⟨d1, (j3.moved hv).kept hk, (j4.moved hv).kept hk⟩, ⟨d2, (j5.moved hv).kept hk, (j6.moved hv).kept hk⟩⟩, fun q hq => (h5 q hq).moved hv, fun w hw => va_Nw.same (zLk_ot w hw) hvm.symm (h6 w hw), ⟨l1.same hvm, (l2.moved hv).kept hk, (l3.moved hv).kept hk, (l4.moved hv).kept hk, (l5.moved hv).kept hk⟩, h8.moved hv⟩
theorem zGG_W (ak av : Nat) : zGW (zGG ak av) := ⟨⟨⟨⟨⟨zGG_ok ak av, fun _ _ h => ⟨h.1, h.2.1⟩⟩, fun _ _ h => h.2.2.1⟩, fun _ _ h => h.2.2.2.1⟩, fun _ _ h => h.2.2.2.2.1⟩, fun _ _ h => h.2.2.2.2.2.1⟩
theorem zGG_I (ak av : Nat) : zGI (zGG ak av) := ⟨⟨⟨zGG_ok ak av, fun _ _ h => ⟨h.1, h.2.1⟩⟩, fun _ _ h => h.2.2.2.1⟩, fun _ _ h => h.2.2.2.2.2.2.2⟩
theorem zGG_L (ak av : Nat) : ∀ (A : Nat → Prop) (U : State), zGG ak av A U → zLit ak av A U := fun _ _ h => h.2.2.2.2.2.2.1
-- the words that say so of the start
theorem zs_bad : ∀ w ∈ zBadW, w ∈ lw_tbl := by decide +kernel
theorem zs_lk : ∀ w ∈ zLkW, w ∈ lw_tbl := by decide +kernel
theorem zs_str : ∀ q ∈ zStr, Cond.stringRef RX5 q.1 q.2 ∈ lw_tbl := by decide +kernel
theorem zs_strx : ∀ q ∈ zStr, Cond.exactly (.string RX5 q.1) "java/lang/String" ∈ flatC (Jvm.Cond.and given_1 narrow_1) := by decide +kernel
theorem zs_nc : ∀ q ∈ zNcL, Cond.not (.castable q.1 q.2) ∈ flatC (Jvm.Cond.and given_1 narrow_1) := by decide +kernel
theorem zs_d1p : ∀ j, j < 100 → (flatC (Jvm.Cond.and given_1 narrow_1))[14 + j]? = some (Cond.eq (.elem (.static RJ6 "DigitOnes" "[B") (.int (Int32.ofNat j))) (.int (zdg1 j))) := by decide +kernel
theorem zs_d1 : ∀ j, j < 100 → Cond.eq (.elem (.static RJ6 "DigitOnes" "[B") (.int (Int32.ofNat j))) (.int (zdg1 j)) ∈ flatC (Jvm.Cond.and given_1 narrow_1) := fun j hj => List.mem_of_getElem? (zs_d1p j hj)
theorem zs_d2p : ∀ j, j < 100 → (flatC (Jvm.Cond.and given_1 narrow_1))[117 + j]? = some (Cond.eq (.elem (.static RJ6 "DigitTens" "[B") (.int (Int32.ofNat j))) (.int (zdg2 j))) := by decide +kernel
theorem zs_d2 : ∀ j, j < 100 → Cond.eq (.elem (.static RJ6 "DigitTens" "[B") (.int (Int32.ofNat j))) (.int (zdg2 j)) ∈ flatC (Jvm.Cond.and given_1 narrow_1) := fun j hj => List.mem_of_getElem? (zs_d2p j hj)
theorem zs_lt : ∀ j, j < 14 → Cond.eq (.elem (.field (.string RX1 47) "java/lang/String" "value" "[B") (.int (Int32.ofNat j))) (.int (zltr j)) ∈ flatC (Jvm.Cond.and given_1 narrow_1) := by decide +kernel
theorem zGG_at {b : Nat} {s : State} (hts : ∀ w ∈ lw_tbl, w.before #[Value.ref b] s = true) (hgv : (Jvm.Cond.and given_1 narrow_1).before #[Value.ref b] s = true) : ∃ ak av : Nat, zGG ak av (fun q => s.heap.size ≤ q) s := by
  have hs := flat_of_before _ hgv
  have hA : ∀ a : Nat, a < s.heap.size → ¬ (fun q : Nat => s.heap.size ≤ q) a := fun a h => Nat.not_le.mpr h
  -- a string of the class's own
  have str : ∀ (own : String) (k : Nat), (Cond.exactly (.string own k) "java/lang/String").before #[Value.ref b] s = true → ∃ a : Nat, (Term.string own k).eval #[Value.ref b] s none [] s = some (.ref a) := fun own k h => by
    obtain ⟨a, c, cA, kA, q1, -⟩ := Cond.exactly_spec (args := #[Value.ref b]) (first := s) (o := none) (s := s) (idx := []) (t := .string own k) (cls := "java/lang/String") h
    exact ⟨a, q1⟩
  obtain ⟨ak, hak⟩ := str RX1 47 (hs _ (by decide +kernel))
  obtain ⟨d1, e1, T1⟩ := va_Tof (s := s) (args := #[Value.ref b]) (tm := .static RJ6 "DigitOnes" "[B") (ty := .byte) (N := 100) (f := fun j => .int (zdg1 j)) (A := fun q => s.heap.size ≤ q) (by decide) (hs _ (by decide +kernel)) (va_eqt (hs _ (by decide +kernel))) (fun j hj => va_eqt (hs _ (zs_d1 j hj))) hA
  obtain ⟨d2, e2, T2⟩ := va_Tof (s := s) (args := #[Value.ref b]) (tm := .static RJ6 "DigitTens" "[B") (ty := .byte) (N := 100) (f := fun j => .int (zdg2 j)) (A := fun q => s.heap.size ≤ q) (by decide) (hs _ (by decide +kernel)) (va_eqt (hs _ (by decide +kernel))) (fun j hj => va_eqt (hs _ (zs_d2 j hj))) hA
  obtain ⟨av, e3, T3⟩ := va_Tof (s := s) (args := #[Value.ref b]) (tm := .field (.string RX1 47) "java/lang/String" "value" "[B") (ty := .byte) (N := 14) (f := fun j => .int (zltr j)) (A := fun q => s.heap.size ≤ q) (by decide) (hs _ (by decide +kernel)) (va_eqt (hs _ (by decide +kernel))) (fun j hj => va_eqt (hs _ (zs_lt j hj))) hA
  have hex := Cond.exactly_spec (args := #[Value.ref b]) (first := s) (o := none) (s := s) (idx := []) (t := .string RX1 47) (cls := "java/lang/String") (hs _ (by decide +kernel))
  obtain ⟨a, c, cA, kA, q1, q2, q3, q4, q5, q6, -⟩ := hex
  have ea : a = ak := by rw [hak] at q1; cases q1; rfl
  subst ea
  refine ⟨a, av, va_Nw.of rfl (hts _ (by decide +kernel)), va_Nw.of rfl (hts _ (by decide +kernel)), ⟨fun w hw => va_Nw.of (zBad_ot w hw) (hts w (zs_bad w hw)), vx_Zqof (hts _ (by decide +kernel)) (hts _ (by decide +kernel)) (hs _ (by decide +kernel)) hA, vx_Zqof (hts _ (by decide +kernel)) (hts _ (by decide +kernel)) (hs _ (by decide +kernel)) hA, fun q hq => ?_⟩, ⟨va_Zof (hts _ (by decide +kernel)) (hts _ (by decide +kernel)) (va_eqi (hs _ (by decide +kernel))) hA, va_Zqof (hts _ (by decide +kernel)) (hts _ (by decide +kernel)) (hs _ (by decide +kernel)) hA, ⟨d1, va_Zref (hts _ (by decide +kernel)) (hts _ (by decide +kernel)) e1 hA, T1⟩, ⟨d2, va_Zref (hts _ (by decide +kernel)) (hts _ (by decide +kernel)) e2 hA, T2⟩⟩, fun q hq => va_Nc.of (hs _ (zs_nc q hq)), fun w hw => va_Nw.of (zLk_ot w hw) (hts w (zs_lk w hw)), ⟨vk_R.of (hts _ (by decide +kernel)) hak, ⟨cA, q3, q5, by rw [q6]; exact q2, hA a (Array.getElem?_eq_some_iff.mp q3).1⟩, vk_OFof hak (va_eqt (hs _ (by decide +kernel))) hA, vk_OFof hak e3 hA, T3⟩, va_AO.of (hts _ (by decide +kernel))⟩
  obtain ⟨sa, h9⟩ := str RX5 q.1 (hs _ (zs_strx q hq))
  exact ⟨sa, vk_R.of (hts _ (zs_str q hq)) h9⟩
end ZGG
