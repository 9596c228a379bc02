section ZMID
variable {D : va_G} {cl : List vw_C} {H : Heap} {A : Nat → Prop}
/-- a stretch of the world, written anew -/
theorem zMid_P {E b b' S : va_W} {k n : Nat} (hk : E.length = k) (hn : b.length = n) (hP : va_P D cl (zset (E ++ (b ++ S)) (zrg k n) b') H) (hl : b'.length = n) : va_P D cl (E ++ (b' ++ S)) H := by
  subst hk; subst hn
  rw [← zset_mid S b b' E hl.symm]; exact hP
theorem zMid_D {E b b' S : va_W} {k n : Nat} (hk : E.length = k) (hn : b.length = n) (hD : va_D A (zset (E ++ (b ++ S)) (zrg k n) b')) (hl : b'.length = n) : va_D A (E ++ (b' ++ S)) := by
  subst hk; subst hn
  rw [← zset_mid S b b' E hl.symm]; exact hD
theorem zMid_C {E b S : va_W} {k n : Nat} (hk : E.length = k) (hn : b.length = n) : (zrg k n).map (fun i => (E ++ (b ++ S))[i]?) = b.map some := by
  subst hk; subst hn
  exact map_zrg S b E
/-! two stretches, the one behind first -/
theorem zMd2_set {E b1 b2 b1' b2' S : va_W} (h1 : b1'.length = b1.length) (h2 : b2'.length = b2.length) : zset (E ++ (b1 ++ (b2 ++ S))) (zrg (E.length + b1.length) b2.length ++ zrg E.length b1.length) (b2' ++ b1') = E ++ (b1' ++ (b2' ++ S)) := by
  rw [zset_app _ _ _ _ _ ((len_zrg _ _).trans h2.symm)]
  have h := zset_mid S b2 b2' (E ++ b1) h2.symm
  rw [List.length_append, List.append_assoc, List.append_assoc] at h
  rw [h]
  exact zset_mid (b2' ++ S) b1 b1' E h1.symm
theorem zMd2_C {E b1 b2 S : va_W} {k n1 n2 : Nat} (hk : E.length = k) (hn1 : b1.length = n1) (hn2 : b2.length = n2) : (zrg (k + n1) n2 ++ zrg k n1).map (fun i => (E ++ (b1 ++ (b2 ++ S)))[i]?) = (b2 ++ b1).map some := by
  subst hk; subst hn1; subst hn2
  rw [List.map_append, List.map_append]
  congr 1
  · have h := map_zrg S b2 (E ++ b1)
    rw [List.length_append, List.append_assoc] at h
    exact h
  · exact map_zrg (b2 ++ S) b1 E
theorem zMd2_n {k n1 n2 : Nat} : va_nd (zrg (k + n1) n2 ++ zrg k n1) = true := by
  refine nd_app _ _ (nd_zrg _ _) (nd_zrg _ _) (fun x hx h => ?_)
  have h1 := mem_zrg _ _ _ hx
  have h2 := mem_zrg _ _ _ h
  omega
theorem zMd2_P {E b1 b2 b1' b2' S : va_W} {k n1 n2 : Nat} (hk : E.length = k) (hn1 : b1.length = n1) (hn2 : b2.length = n2) (hP : va_P D cl (zset (E ++ (b1 ++ (b2 ++ S))) (zrg (k + n1) n2 ++ zrg k n1) (b2' ++ b1')) H) (h1 : b1'.length = n1) (h2 : b2'.length = n2) : va_P D cl (E ++ (b1' ++ (b2' ++ S))) H := by
  subst hk; subst hn1; subst hn2
  rw [← zMd2_set h1 h2]; exact hP
theorem zMd2_D {E b1 b2 b1' b2' S : va_W} {k n1 n2 : Nat} (hk : E.length = k) (hn1 : b1.length = n1) (hn2 : b2.length = n2) (hD : va_D A (zset (E ++ (b1 ++ (b2 ++ S))) (zrg (k + n1) n2 ++ zrg k n1) (b2' ++ b1'))) (h1 : b1'.length = n1) (h2 : b2'.length = n2) : va_D A (E ++ (b1' ++ (b2' ++ S))) := by
  subst hk; subst hn1; subst hn2
  rw [← zMd2_set h1 h2]; exact hD
end ZMID
