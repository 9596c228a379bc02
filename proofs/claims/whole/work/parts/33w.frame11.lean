section ZMIDB
variable {D : va_G} {cl : List vw_C} {H : Heap} {A : Nat → Prop}
theorem zMidB_e (E b S B : va_W) : (E ++ (b ++ S)) ++ B = E ++ (b ++ (S ++ B)) := by simp [List.append_assoc]
theorem zMidB_P {E b b' S B : va_W} {k n : Nat} (hk : E.length = k) (hn : b.length = n) (hP : va_P D cl (zset ((E ++ (b ++ S)) ++ B) (zrg k n) b') H) (hl : b'.length = n) : va_P D cl ((E ++ (b' ++ S)) ++ B) H := by
  rw [zMidB_e] at hP ⊢
  exact zMid_P hk hn hP hl
theorem zMidB_D {E b b' S B : va_W} {k n : Nat} (hk : E.length = k) (hn : b.length = n) (hD : va_D A (zset ((E ++ (b ++ S)) ++ B) (zrg k n) b')) (hl : b'.length = n) : va_D A ((E ++ (b' ++ S)) ++ B) := by
  rw [zMidB_e] at hD ⊢
  exact zMid_D hk hn hD hl
theorem zMidB_C {E b S B : va_W} {k n : Nat} (hk : E.length = k) (hn : b.length = n) : (zrg k n).map (fun i => ((E ++ (b ++ S)) ++ B)[i]?) = b.map some := by
  rw [zMidB_e]
  exact zMid_C hk hn
theorem zMd2B_e (E b1 b2 S B : va_W) : (E ++ (b1 ++ (b2 ++ S))) ++ B = E ++ (b1 ++ (b2 ++ (S ++ B))) := by simp [List.append_assoc]
theorem zMd2B_C {E b1 b2 S B : va_W} {k n1 n2 : Nat} (hk : E.length = k) (hn1 : b1.length = n1) (hn2 : b2.length = n2) : (zrg (k + n1) n2 ++ zrg k n1).map (fun i => ((E ++ (b1 ++ (b2 ++ S))) ++ B)[i]?) = (b2 ++ b1).map some := by
  rw [zMd2B_e]
  exact zMd2_C hk hn1 hn2
theorem zMd2B_P {E b1 b2 b1' b2' S B : va_W} {k n1 n2 : Nat} (hk : E.length = k) (hn1 : b1.length = n1) (hn2 : b2.length = n2) (hP : va_P D cl (zset ((E ++ (b1 ++ (b2 ++ S))) ++ B) (zrg (k + n1) n2 ++ zrg k n1) (b2' ++ b1')) H) (h1 : b1'.length = n1) (h2 : b2'.length = n2) : va_P D cl ((E ++ (b1' ++ (b2' ++ S))) ++ B) H := by
  rw [zMd2B_e] at hP ⊢
  exact zMd2_P hk hn1 hn2 hP h1 h2
theorem zMd2B_D {E b1 b2 b1' b2' S B : va_W} {k n1 n2 : Nat} (hk : E.length = k) (hn1 : b1.length = n1) (hn2 : b2.length = n2) (hD : va_D A (zset ((E ++ (b1 ++ (b2 ++ S))) ++ B) (zrg (k + n1) n2 ++ zrg k n1) (b2' ++ b1'))) (h1 : b1'.length = n1) (h2 : b2'.length = n2) : va_D A ((E ++ (b1' ++ (b2' ++ S))) ++ B) := by
  rw [zMd2B_e] at hD ⊢
  exact zMd2_D hk hn1 hn2 hD h1 h2
end ZMIDB
