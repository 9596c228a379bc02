section ZAT0
variable {D : va_G} {cl : List vw_C} {tys : List (ClassId × FieldType)}
theorem zMN.at0 {G : zG} (hg : zOK G) {l : Launch} {y : MethodName} {ws : List Cond} {rm rm' : Room} {as : List Value} {w w' w0 w3 : va_W} {o : Option Value} {Φ : va_W → Option Value → Prop} {mc ms mc' ms' : Nat} (h : zMN G D cl tys l y ws rm as w (fun _ => o) 0 (fun _ => w') (fun _ => []) mc ms) (isC : List Nat) (hC : isC.map (fun i => w0[i]?) = w.map some) (hn : va_nd isC = true) (hadr : w'.map (·.1) = w.map (·.1)) (hz : zset w0 isC w' = w3) (hΦ : Φ w3 o)
    (hf : rm.frames ≤ rm'.frames) (hl : rm.locals ≤ rm'.locals) (hc : rm.cells ≤ rm'.cells) (hs : rm.slots ≤ rm'.slots) (h1 : mc ≤ mc') (h2 : ms ≤ ms') : zC G D cl tys l y ws rm' as w0 Φ mc' ms' :=
  zMN.at hg h isC hC hn (fun _ => hadr) (fun _ _ => ⟨w3, hΦ, by rw [hz, List.append_nil]; exact zSub.rf⟩) hf hl hc hs h1 h2
end ZAT0
