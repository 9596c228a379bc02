section ZF4
variable {D : va_G} {cl : List vw_C} {tys : List (ClassId × FieldType)}
variable {p : Program} {l : Launch} {e : Env} {R : Room} {s : State} {m : MethodId} {args : Array Value} {below : List Frame} {meth : Method} {c : Code} {H : Heap} {locs : List Loc} {cells slots : Nat} {Q : State → Prop}
theorem zdret {cc : ByteArray} {A : Nat → Prop} {w w' : va_W} {v r : UInt64} {pc : Nat} {ls : Array Slot} (hend : ∀ t, MQ below (zQ D cl tys (some (.double r)) w' A) args s 0 0 A t → Q t) (hx : p.tables.exec = Jvm.exec) (hb : c.code = cc) (hr : meth.sig.returnType = some .double) (hlk : meth.locks = false) (hK : va_K D cl tys s) (hP : va_P D cl w H) (hD : va_D A w) (hS : va_S A s.heap H locs) (d : decode cc pc = .ok (.dreturn, 1)) (hv : v = r) (hw : w = w') : W p l e R s m args below meth c H locs 0 0 Q (F0 m pc ls [.double v]) := by
  subst hv
  exact z_mono hend (W.dret (v := v) hx hb hr (z_ends hK hP hD hS hw) hS.2.2 d hlk)
theorem zfret {cc : ByteArray} {A : Nat → Prop} {w w' : va_W} {v r : UInt32} {pc : Nat} {ls : Array Slot} (hend : ∀ t, MQ below (zQ D cl tys (some (.float r)) w' A) args s 0 0 A t → Q t) (hx : p.tables.exec = Jvm.exec) (hb : c.code = cc) (hr : meth.sig.returnType = some .float) (hlk : meth.locks = false) (hK : va_K D cl tys s) (hP : va_P D cl w H) (hD : va_D A w) (hS : va_S A s.heap H locs) (d : decode cc pc = .ok (.freturn, 1)) (hv : v = r) (hw : w = w') : W p l e R s m args below meth c H locs 0 0 Q (F0 m pc ls [.float v]) := by
  subst hv
  exact z_mono hend (W.fret (v := v) hx hb hr (z_ends hK hP hD hS hw) hS.2.2 d hlk)
end ZF4
