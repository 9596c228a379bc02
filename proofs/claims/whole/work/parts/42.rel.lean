/-! the two worlds' contents, and what ties them together -/
section ZREL
def zPX : Type :=
  (Nat → Nat → Int32) ×
  (Nat → Nat) ×
  (Int32) ×
  (Int32) ×
  (Nat → Nat → Int32) ×
  (Nat → Nat) ×
  (Int32) ×
  (Int32) ×
  (Nat → Nat → Int32) ×
  (Nat → Nat) ×
  (Int32) ×
  (Int32) ×
  (Nat → Int32) ×
  (Nat → Int32) ×
  (Int32) ×
  (Int32) ×
  (Nat) ×
  (Nat) ×
  (Nat → Nat → Nat → Int32) ×
  (Nat → Nat → Nat) ×
  (Int32) ×
  (Int32) ×
  (Int32) ×
  (Int32) ×
  (Int32) ×
  (Nat) ×
  (Nat) ×
  (Nat → Int32) ×
  (Nat → Int32) ×
  (Nat → Int32) ×
  (Nat) ×
  (Nat) ×
  (Int32) ×
  (Nat) ×
  (Nat → Int32) ×
  (Nat) ×
  (Nat) ×
  (Int32) ×
  (Nat) ×
  (Nat → Int32) ×
  (Nat → Int64) ×
  (Nat → UInt64)
abbrev zPX.mu (A : zPX) : Nat → Nat → Int32 := A.1
abbrev zPX.nu (A : zPX) : Nat → Nat := A.2.1
abbrev zPX.rdt (A : zPX) : Int32 := A.2.2.1
abbrev zPX.rrs (A : zPX) : Int32 := A.2.2.2.1
abbrev zPX.tm (A : zPX) : Nat → Nat → Int32 := A.2.2.2.2.1
abbrev zPX.tn (A : zPX) : Nat → Nat := A.2.2.2.2.2.1
abbrev zPX.trd (A : zPX) : Int32 := A.2.2.2.2.2.2.1
abbrev zPX.trr (A : zPX) : Int32 := A.2.2.2.2.2.2.2.1
abbrev zPX.sm (A : zPX) : Nat → Nat → Int32 := A.2.2.2.2.2.2.2.2.1
abbrev zPX.sn (A : zPX) : Nat → Nat := A.2.2.2.2.2.2.2.2.2.1
abbrev zPX.srd (A : zPX) : Int32 := A.2.2.2.2.2.2.2.2.2.2.1
abbrev zPX.srr (A : zPX) : Int32 := A.2.2.2.2.2.2.2.2.2.2.2.1
abbrev zPX.alo (A : zPX) : Nat → Int32 := A.2.2.2.2.2.2.2.2.2.2.2.2.1
abbrev zPX.aag (A : zPX) : Nat → Int32 := A.2.2.2.2.2.2.2.2.2.2.2.2.2.1
abbrev zPX.awk (A : zPX) : Int32 := A.2.2.2.2.2.2.2.2.2.2.2.2.2.2.1
abbrev zPX.ahd (A : zPX) : Int32 := A.2.2.2.2.2.2.2.2.2.2.2.2.2.2.2.1
abbrev zPX.nx (A : zPX) : Nat := A.2.2.2.2.2.2.2.2.2.2.2.2.2.2.2.2.1
abbrev zPX.hc (A : zPX) : Nat := A.2.2.2.2.2.2.2.2.2.2.2.2.2.2.2.2.2.1
abbrev zPX.hm (A : zPX) : Nat → Nat → Nat → Int32 := A.2.2.2.2.2.2.2.2.2.2.2.2.2.2.2.2.2.2.1
abbrev zPX.hn (A : zPX) : Nat → Nat → Nat := A.2.2.2.2.2.2.2.2.2.2.2.2.2.2.2.2.2.2.2.1
abbrev zPX.ss (A : zPX) : Int32 := A.2.2.2.2.2.2.2.2.2.2.2.2.2.2.2.2.2.2.2.2.1
abbrev zPX.lse (A : zPX) : Int32 := A.2.2.2.2.2.2.2.2.2.2.2.2.2.2.2.2.2.2.2.2.2.1
abbrev zPX.lre (A : zPX) : Int32 := A.2.2.2.2.2.2.2.2.2.2.2.2.2.2.2.2.2.2.2.2.2.2.1
abbrev zPX.lde (A : zPX) : Int32 := A.2.2.2.2.2.2.2.2.2.2.2.2.2.2.2.2.2.2.2.2.2.2.2.1
abbrev zPX.lca (A : zPX) : Int32 := A.2.2.2.2.2.2.2.2.2.2.2.2.2.2.2.2.2.2.2.2.2.2.2.2.1
abbrev zPX.kc (A : zPX) : Nat := A.2.2.2.2.2.2.2.2.2.2.2.2.2.2.2.2.2.2.2.2.2.2.2.2.2.1
abbrev zPX.he (A : zPX) : Nat := A.2.2.2.2.2.2.2.2.2.2.2.2.2.2.2.2.2.2.2.2.2.2.2.2.2.2.1
abbrev zPX.oo (A : zPX) : Nat → Int32 := A.2.2.2.2.2.2.2.2.2.2.2.2.2.2.2.2.2.2.2.2.2.2.2.2.2.2.2.1
abbrev zPX.fi (A : zPX) : Nat → Int32 := A.2.2.2.2.2.2.2.2.2.2.2.2.2.2.2.2.2.2.2.2.2.2.2.2.2.2.2.2.1
abbrev zPX.se (A : zPX) : Nat → Int32 := A.2.2.2.2.2.2.2.2.2.2.2.2.2.2.2.2.2.2.2.2.2.2.2.2.2.2.2.2.2.1
abbrev zPX.b8 (A : zPX) : Nat := A.2.2.2.2.2.2.2.2.2.2.2.2.2.2.2.2.2.2.2.2.2.2.2.2.2.2.2.2.2.2.1
abbrev zPX.mm (A : zPX) : Nat := A.2.2.2.2.2.2.2.2.2.2.2.2.2.2.2.2.2.2.2.2.2.2.2.2.2.2.2.2.2.2.2.1
abbrev zPX.ml (A : zPX) : Int32 := A.2.2.2.2.2.2.2.2.2.2.2.2.2.2.2.2.2.2.2.2.2.2.2.2.2.2.2.2.2.2.2.2.1
abbrev zPX.nn (A : zPX) : Nat := A.2.2.2.2.2.2.2.2.2.2.2.2.2.2.2.2.2.2.2.2.2.2.2.2.2.2.2.2.2.2.2.2.2.1
abbrev zPX.bx (A : zPX) : Nat → Int32 := A.2.2.2.2.2.2.2.2.2.2.2.2.2.2.2.2.2.2.2.2.2.2.2.2.2.2.2.2.2.2.2.2.2.2.1
abbrev zPX.c8 (A : zPX) : Nat := A.2.2.2.2.2.2.2.2.2.2.2.2.2.2.2.2.2.2.2.2.2.2.2.2.2.2.2.2.2.2.2.2.2.2.2.1
abbrev zPX.om (A : zPX) : Nat := A.2.2.2.2.2.2.2.2.2.2.2.2.2.2.2.2.2.2.2.2.2.2.2.2.2.2.2.2.2.2.2.2.2.2.2.2.1
abbrev zPX.oml (A : zPX) : Int32 := A.2.2.2.2.2.2.2.2.2.2.2.2.2.2.2.2.2.2.2.2.2.2.2.2.2.2.2.2.2.2.2.2.2.2.2.2.2.1
abbrev zPX.on (A : zPX) : Nat := A.2.2.2.2.2.2.2.2.2.2.2.2.2.2.2.2.2.2.2.2.2.2.2.2.2.2.2.2.2.2.2.2.2.2.2.2.2.2.1
abbrev zPX.ox (A : zPX) : Nat → Int32 := A.2.2.2.2.2.2.2.2.2.2.2.2.2.2.2.2.2.2.2.2.2.2.2.2.2.2.2.2.2.2.2.2.2.2.2.2.2.2.2.1
abbrev zPX.lo1 (A : zPX) : Nat → Int64 := A.2.2.2.2.2.2.2.2.2.2.2.2.2.2.2.2.2.2.2.2.2.2.2.2.2.2.2.2.2.2.2.2.2.2.2.2.2.2.2.2.1
abbrev zPX.lo2 (A : zPX) : Nat → UInt64 := A.2.2.2.2.2.2.2.2.2.2.2.2.2.2.2.2.2.2.2.2.2.2.2.2.2.2.2.2.2.2.2.2.2.2.2.2.2.2.2.2.2
def zPM : Type :=
  (Int32) ×
  (Nat) ×
  (Int32) ×
  (Int32) ×
  (Int32) ×
  (Int32) ×
  (Bool) ×
  (Bool) ×
  (Nat) ×
  (Nat) ×
  (Nat) ×
  (Nat) ×
  (Bool) ×
  (Bool) ×
  (Nat → Int32) ×
  (Nat → Int32) ×
  (Nat → Int32) ×
  (Nat → Int32) ×
  (Nat → Nat → Int32) ×
  (Nat → Int32) ×
  (Nat → Int32)
abbrev zPM.th (A : zPM) : Int32 := A.1
abbrev zPM.ch (A : zPM) : Nat := A.2.1
abbrev zPM.era (A : zPM) : Int32 := A.2.2.1
abbrev zPM.why (A : zPM) : Int32 := A.2.2.2.1
abbrev zPM.det (A : zPM) : Int32 := A.2.2.2.2.1
abbrev zPM.cau (A : zPM) : Int32 := A.2.2.2.2.2.1
abbrev zPM.sv (A : zPM) : Bool := A.2.2.2.2.2.2.1
abbrev zPM.rj (A : zPM) : Bool := A.2.2.2.2.2.2.2.1
abbrev zPM.tn (A : zPM) : Nat := A.2.2.2.2.2.2.2.2.1
abbrev zPM.he (A : zPM) : Nat := A.2.2.2.2.2.2.2.2.2.1
abbrev zPM.en (A : zPM) : Nat := A.2.2.2.2.2.2.2.2.2.2.1
abbrev zPM.ln (A : zPM) : Nat := A.2.2.2.2.2.2.2.2.2.2.2.1
abbrev zPM.iw (A : zPM) : Bool := A.2.2.2.2.2.2.2.2.2.2.2.2.1
abbrev zPM.dg (A : zPM) : Bool := A.2.2.2.2.2.2.2.2.2.2.2.2.2.1
abbrev zPM.v (A : zPM) : Nat → Int32 := A.2.2.2.2.2.2.2.2.2.2.2.2.2.2.1
abbrev zPM.bf (A : zPM) : Nat → Int32 := A.2.2.2.2.2.2.2.2.2.2.2.2.2.2.2.1
abbrev zPM.sf (A : zPM) : Nat → Int32 := A.2.2.2.2.2.2.2.2.2.2.2.2.2.2.2.2.1
abbrev zPM.kf (A : zPM) : Nat → Int32 := A.2.2.2.2.2.2.2.2.2.2.2.2.2.2.2.2.2.1
abbrev zPM.pq (A : zPM) : Nat → Nat → Int32 := A.2.2.2.2.2.2.2.2.2.2.2.2.2.2.2.2.2.2.1
abbrev zPM.tx (A : zPM) : Nat → Int32 := A.2.2.2.2.2.2.2.2.2.2.2.2.2.2.2.2.2.2.2.1
abbrev zPM.lx (A : zPM) : Nat → Int32 := A.2.2.2.2.2.2.2.2.2.2.2.2.2.2.2.2.2.2.2.2
abbrev zPX.w (A : zPX) (cy : Nat → ClassId) (ad qn qt qs : Nat → Nat) (qh : Nat → Nat → Nat) : va_W := wX cy ad qn qt qs qh A.mu A.nu A.rdt A.rrs A.tm A.tn A.trd A.trr A.sm A.sn A.srd A.srr A.alo A.aag A.awk A.ahd A.nx A.hc A.hm A.hn A.ss A.lse A.lre A.lde A.lca A.kc A.he A.oo A.fi A.se A.b8 A.mm A.ml A.nn A.bx A.c8 A.om A.oml A.on A.ox A.lo1 A.lo2
abbrev zPM.w (B : zPM) (cy : Nat → ClassId) (bd : Nat → Nat) : va_W := wM cy bd B.th B.ch B.era B.why B.det B.cau B.sv B.rj B.tn B.he B.en B.ln B.iw B.dg B.v B.bf B.sf B.kf B.pq B.tx B.lx
/-- what a machine's contents keep -/
def zGd (mu : Nat → Nat → Int32) (nu : Nat → Nat) : Prop :=
  (nu 0 < 4) ∧
  (nu 1 ≤ 6) ∧
  (nu 2 ≤ 30) ∧
  (pm (mu 8 0)) ∧
  (pm (mu 8 1)) ∧
  (∀ j, j < 24 → zb (mu 8 1) (nI j) = true → zb (mu 8 0) (nI j) = true) ∧
  (∀ j, j < 24 → ∃ k : Nat, k ≤ 3 ∧ mu 0 j = nI k) ∧
  (∀ j, j < 24 → zb (mu 8 0) (nI j) = false → mu 0 j = 0) ∧
  (∀ j, j < 24 → ∃ k : Nat, k ≤ 5 ∧ mu 1 j = nI k) ∧
  (∀ j, j < 24 → mu 0 j = 0 → mu 1 j = 0) ∧
  (∀ j, j < 4 → ∃ k : Nat, k ≤ 200 ∧ mu 6 j = nI k) ∧
  (∀ j, j < nu 1 → ∃ k : Nat, k ≤ 255 ∧ mu 7 j = nI k) ∧
  (∀ c, c < nu 2 → ∃ k : Nat, k ≤ 24 ∧ mu 2 c = nI k) ∧
  (∀ c, c < nu 2 → ∃ k : Nat, k ≤ 200 ∧ mu 3 c = nI k) ∧
  (∀ c, c < nu 2 → ∃ k : Nat, k < 4 ∧ mu 4 c = nI k) ∧
  (∀ c, c < nu 2 → ∃ k : Nat, k ≤ 72 ∧ mu 5 c = nI k) ∧
  (∃ k : Nat, 1 ≤ k ∧ k ≤ 9 ∧ mu 8 2 = nI k)
theorem zGd.n0 {mu : Nat → Nat → Int32} {nu : Nat → Nat} (hS9 : zGd mu nu) : nu 0 < 4 := hS9.1
theorem zGd.n1 {mu : Nat → Nat → Int32} {nu : Nat → Nat} (hS9 : zGd mu nu) : nu 1 ≤ 6 := hS9.2.1
theorem zGd.n2 {mu : Nat → Nat → Int32} {nu : Nat → Nat} (hS9 : zGd mu nu) : nu 2 ≤ 30 := hS9.2.2.1
theorem zGd.wk {mu : Nat → Nat → Int32} {nu : Nat → Nat} (hS9 : zGd mu nu) : pm (mu 8 0) := hS9.2.2.2.1
theorem zGd.hk {mu : Nat → Nat → Int32} {nu : Nat → Nat} (hS9 : zGd mu nu) : pm (mu 8 1) := hS9.2.2.2.2.1
theorem zGd.hd {mu : Nat → Nat → Int32} {nu : Nat → Nat} (hS9 : zGd mu nu) : ∀ j, j < 24 → zb (mu 8 1) (nI j) = true → zb (mu 8 0) (nI j) = true := hS9.2.2.2.2.2.1
theorem zGd.lk {mu : Nat → Nat → Int32} {nu : Nat → Nat} (hS9 : zGd mu nu) : ∀ j, j < 24 → ∃ k : Nat, k ≤ 3 ∧ mu 0 j = nI k := hS9.2.2.2.2.2.2.1
theorem zGd.lw {mu : Nat → Nat → Int32} {nu : Nat → Nat} (hS9 : zGd mu nu) : ∀ j, j < 24 → zb (mu 8 0) (nI j) = false → mu 0 j = 0 := hS9.2.2.2.2.2.2.2.1
theorem zGd.ak {mu : Nat → Nat → Int32} {nu : Nat → Nat} (hS9 : zGd mu nu) : ∀ j, j < 24 → ∃ k : Nat, k ≤ 5 ∧ mu 1 j = nI k := hS9.2.2.2.2.2.2.2.2.1
theorem zGd.al {mu : Nat → Nat → Int32} {nu : Nat → Nat} (hS9 : zGd mu nu) : ∀ j, j < 24 → mu 0 j = 0 → mu 1 j = 0 := hS9.2.2.2.2.2.2.2.2.2.1
theorem zGd.yk {mu : Nat → Nat → Int32} {nu : Nat → Nat} (hS9 : zGd mu nu) : ∀ j, j < 4 → ∃ k : Nat, k ≤ 200 ∧ mu 6 j = nI k := hS9.2.2.2.2.2.2.2.2.2.2.1
theorem zGd.rk {mu : Nat → Nat → Int32} {nu : Nat → Nat} (hS9 : zGd mu nu) : ∀ j, j < nu 1 → ∃ k : Nat, k ≤ 255 ∧ mu 7 j = nI k := hS9.2.2.2.2.2.2.2.2.2.2.2.1
theorem zGd.cw {mu : Nat → Nat → Int32} {nu : Nat → Nat} (hS9 : zGd mu nu) : ∀ c, c < nu 2 → ∃ k : Nat, k ≤ 24 ∧ mu 2 c = nI k := hS9.2.2.2.2.2.2.2.2.2.2.2.2.1
theorem zGd.cy {mu : Nat → Nat → Int32} {nu : Nat → Nat} (hS9 : zGd mu nu) : ∀ c, c < nu 2 → ∃ k : Nat, k ≤ 200 ∧ mu 3 c = nI k := hS9.2.2.2.2.2.2.2.2.2.2.2.2.2.1
theorem zGd.cf {mu : Nat → Nat → Int32} {nu : Nat → Nat} (hS9 : zGd mu nu) : ∀ c, c < nu 2 → ∃ k : Nat, k < 4 ∧ mu 4 c = nI k := hS9.2.2.2.2.2.2.2.2.2.2.2.2.2.2.1
theorem zGd.cd {mu : Nat → Nat → Int32} {nu : Nat → Nat} (hS9 : zGd mu nu) : ∀ c, c < nu 2 → ∃ k : Nat, k ≤ 72 ∧ mu 5 c = nI k := hS9.2.2.2.2.2.2.2.2.2.2.2.2.2.2.2.1
theorem zGd.tk {mu : Nat → Nat → Int32} {nu : Nat → Nat} (hS9 : zGd mu nu) : ∃ k : Nat, 1 ≤ k ∧ k ≤ 9 ∧ mu 8 2 = nI k := hS9.2.2.2.2.2.2.2.2.2.2.2.2.2.2.2.2
/-- a machine's contents and the model's -/
def zSt (mu : Nat → Nat → Int32) (nu : Nat → Nat) (v : Nat → Int32) : Prop :=
  (zGd mu nu) ∧
  (v 0 = mu 8 0) ∧
  (v 1 = mu 8 1) ∧
  (v 2 = nI (nu 0)) ∧
  (v 3 = mu 8 2) ∧
  (v 4 = nI (nu 1)) ∧
  (v 5 = nI (nu 2)) ∧
  (v 6 = mu 8 3) ∧
  (v 7 = mu 8 4) ∧
  (v 8 = mu 8 5) ∧
  (v 9 = mu 8 6) ∧
  (∀ j, j < 24 → v (10 + j) = mu 0 j) ∧
  (∀ j, j < 24 → v (34 + j) = mu 1 j) ∧
  (∀ j, j < 4 → v (58 + j) = mu 6 j) ∧
  (∀ j, j < nu 1 → v (62 + j) = mu 7 j) ∧
  (∀ c, c < nu 2 → v (68 + 4 * c) = mu 2 c) ∧
  (∀ c, c < nu 2 → v (68 + 4 * c + 1) = mu 4 c) ∧
  (∀ c, c < nu 2 → v (68 + 4 * c + 2) = mu 3 c) ∧
  (∀ c, c < nu 2 → v (68 + 4 * c + 3) = mu 5 c)
theorem zSt.gd {mu : Nat → Nat → Int32} {nu : Nat → Nat} {v : Nat → Int32} (hS9 : zSt mu nu v) : zGd mu nu := hS9.1
theorem zSt.v0 {mu : Nat → Nat → Int32} {nu : Nat → Nat} {v : Nat → Int32} (hS9 : zSt mu nu v) : v 0 = mu 8 0 := hS9.2.1
theorem zSt.v1 {mu : Nat → Nat → Int32} {nu : Nat → Nat} {v : Nat → Int32} (hS9 : zSt mu nu v) : v 1 = mu 8 1 := hS9.2.2.1
theorem zSt.v2 {mu : Nat → Nat → Int32} {nu : Nat → Nat} {v : Nat → Int32} (hS9 : zSt mu nu v) : v 2 = nI (nu 0) := hS9.2.2.2.1
theorem zSt.v3 {mu : Nat → Nat → Int32} {nu : Nat → Nat} {v : Nat → Int32} (hS9 : zSt mu nu v) : v 3 = mu 8 2 := hS9.2.2.2.2.1
theorem zSt.v4 {mu : Nat → Nat → Int32} {nu : Nat → Nat} {v : Nat → Int32} (hS9 : zSt mu nu v) : v 4 = nI (nu 1) := hS9.2.2.2.2.2.1
theorem zSt.v5 {mu : Nat → Nat → Int32} {nu : Nat → Nat} {v : Nat → Int32} (hS9 : zSt mu nu v) : v 5 = nI (nu 2) := hS9.2.2.2.2.2.2.1
theorem zSt.v6 {mu : Nat → Nat → Int32} {nu : Nat → Nat} {v : Nat → Int32} (hS9 : zSt mu nu v) : v 6 = mu 8 3 := hS9.2.2.2.2.2.2.2.1
theorem zSt.v7 {mu : Nat → Nat → Int32} {nu : Nat → Nat} {v : Nat → Int32} (hS9 : zSt mu nu v) : v 7 = mu 8 4 := hS9.2.2.2.2.2.2.2.2.1
theorem zSt.v8 {mu : Nat → Nat → Int32} {nu : Nat → Nat} {v : Nat → Int32} (hS9 : zSt mu nu v) : v 8 = mu 8 5 := hS9.2.2.2.2.2.2.2.2.2.1
theorem zSt.v9 {mu : Nat → Nat → Int32} {nu : Nat → Nat} {v : Nat → Int32} (hS9 : zSt mu nu v) : v 9 = mu 8 6 := hS9.2.2.2.2.2.2.2.2.2.2.1
theorem zSt.lo {mu : Nat → Nat → Int32} {nu : Nat → Nat} {v : Nat → Int32} (hS9 : zSt mu nu v) : ∀ j, j < 24 → v (10 + j) = mu 0 j := hS9.2.2.2.2.2.2.2.2.2.2.2.1
theorem zSt.ag {mu : Nat → Nat → Int32} {nu : Nat → Nat} {v : Nat → Int32} (hS9 : zSt mu nu v) : ∀ j, j < 24 → v (34 + j) = mu 1 j := hS9.2.2.2.2.2.2.2.2.2.2.2.2.1
theorem zSt.yn {mu : Nat → Nat → Int32} {nu : Nat → Nat} {v : Nat → Int32} (hS9 : zSt mu nu v) : ∀ j, j < 4 → v (58 + j) = mu 6 j := hS9.2.2.2.2.2.2.2.2.2.2.2.2.2.1
theorem zSt.ro {mu : Nat → Nat → Int32} {nu : Nat → Nat} {v : Nat → Int32} (hS9 : zSt mu nu v) : ∀ j, j < nu 1 → v (62 + j) = mu 7 j := hS9.2.2.2.2.2.2.2.2.2.2.2.2.2.2.1
theorem zSt.cw {mu : Nat → Nat → Int32} {nu : Nat → Nat} {v : Nat → Int32} (hS9 : zSt mu nu v) : ∀ c, c < nu 2 → v (68 + 4 * c) = mu 2 c := hS9.2.2.2.2.2.2.2.2.2.2.2.2.2.2.2.1
theorem zSt.cf {mu : Nat → Nat → Int32} {nu : Nat → Nat} {v : Nat → Int32} (hS9 : zSt mu nu v) : ∀ c, c < nu 2 → v (68 + 4 * c + 1) = mu 4 c := hS9.2.2.2.2.2.2.2.2.2.2.2.2.2.2.2.2.1
theorem zSt.cy {mu : Nat → Nat → Int32} {nu : Nat → Nat} {v : Nat → Int32} (hS9 : zSt mu nu v) : ∀ c, c < nu 2 → v (68 + 4 * c + 2) = mu 3 c := hS9.2.2.2.2.2.2.2.2.2.2.2.2.2.2.2.2.2.1
theorem zSt.cd {mu : Nat → Nat → Int32} {nu : Nat → Nat} {v : Nat → Int32} (hS9 : zSt mu nu v) : ∀ c, c < nu 2 → v (68 + 4 * c + 3) = mu 5 c := hS9.2.2.2.2.2.2.2.2.2.2.2.2.2.2.2.2.2.2
/-- the last eight states -/
def zHi (nx hc : Nat) (hm : Nat → Nat → Nat → Int32) (hn : Nat → Nat → Nat) (ch : Nat) (pq : Nat → Nat → Int32) : Prop :=
  (nx < 8) ∧
  (hc ≤ 8) ∧
  (ch = hc) ∧
  (∀ i, i < ch → zSt (hm ((nx + 8 - ch + i) % 8)) (hn ((nx + 8 - ch + i) % 8)) (pq i))
theorem zHi.nl {nx hc : Nat} {hm : Nat → Nat → Nat → Int32} {hn : Nat → Nat → Nat} {ch : Nat} {pq : Nat → Nat → Int32} (hS9 : zHi nx hc hm hn ch pq) : nx < 8 := hS9.1
theorem zHi.hl {nx hc : Nat} {hm : Nat → Nat → Nat → Int32} {hn : Nat → Nat → Nat} {ch : Nat} {pq : Nat → Nat → Int32} (hS9 : zHi nx hc hm hn ch pq) : hc ≤ 8 := hS9.2.1
theorem zHi.ce {nx hc : Nat} {hm : Nat → Nat → Nat → Int32} {hn : Nat → Nat → Nat} {ch : Nat} {pq : Nat → Nat → Int32} (hS9 : zHi nx hc hm hn ch pq) : ch = hc := hS9.2.2.1
theorem zHi.st {nx hc : Nat} {hm : Nat → Nat → Nat → Int32} {hn : Nat → Nat → Nat} {ch : Nat} {pq : Nat → Nat → Int32} (hS9 : zHi nx hc hm hn ch pq) : ∀ i, i < ch → zSt (hm ((nx + 8 - ch + i) % 8)) (hn ((nx + 8 - ch + i) % 8)) (pq i) := hS9.2.2.2
/-- what went wrong last -/
def zRe (lse lre lde lca era why det cau : Int32) : Prop :=
  (era = lse) ∧
  (era = -1 ∨ 0 ≤ era) ∧
  (why = lre) ∧
  (det = lde) ∧
  (cau = lca) ∧
  (cau = 0 ↔ ¬ lre = 15)
theorem zRe.se {lse lre lde lca era why det cau : Int32} (hS9 : zRe lse lre lde lca era why det cau) : era = lse := hS9.1
theorem zRe.sn {lse lre lde lca era why det cau : Int32} (hS9 : zRe lse lre lde lca era why det cau) : era = -1 ∨ 0 ≤ era := hS9.2.1
theorem zRe.re {lse lre lde lca era why det cau : Int32} (hS9 : zRe lse lre lde lca era why det cau) : why = lre := hS9.2.2.1
theorem zRe.de {lse lre lde lca era why det cau : Int32} (hS9 : zRe lse lre lde lca era why det cau) : det = lde := hS9.2.2.2.1
theorem zRe.ca {lse lre lde lca era why det cau : Int32} (hS9 : zRe lse lre lde lca era why det cau) : cau = lca := hS9.2.2.2.2.1
theorem zRe.cn {lse lre lde lca era why det cau : Int32} (hS9 : zRe lse lre lde lca era why det cau) : cau = 0 ↔ ¬ lre = 15 := hS9.2.2.2.2.2
/-- the text read -/
def zTx (mm nn : Nat) (bx : Nat → Int32) (tn : Nat) (tx : Nat → Int32) : Prop :=
  (mm = 16 ∨ mm = 34 ∨ mm = 70) ∧
  (nn ≤ mm) ∧
  (nn ≤ 60) ∧
  (tn = nn) ∧
  (∀ j, j < nn → tx j = bx j) ∧
  (∀ j, j < nn → zic 32 126 (bx j) = true) ∧
  (∀ j, j < mm → fits .byte (.int (bx j)) = true)
theorem zTx.m {mm nn : Nat} {bx : Nat → Int32} {tn : Nat} {tx : Nat → Int32} (hS9 : zTx mm nn bx tn tx) : mm = 16 ∨ mm = 34 ∨ mm = 70 := hS9.1
theorem zTx.n {mm nn : Nat} {bx : Nat → Int32} {tn : Nat} {tx : Nat → Int32} (hS9 : zTx mm nn bx tn tx) : nn ≤ mm := hS9.2.1
theorem zTx.n60 {mm nn : Nat} {bx : Nat → Int32} {tn : Nat} {tx : Nat → Int32} (hS9 : zTx mm nn bx tn tx) : nn ≤ 60 := hS9.2.2.1
theorem zTx.e {mm nn : Nat} {bx : Nat → Int32} {tn : Nat} {tx : Nat → Int32} (hS9 : zTx mm nn bx tn tx) : tn = nn := hS9.2.2.2.1
theorem zTx.x {mm nn : Nat} {bx : Nat → Int32} {tn : Nat} {tx : Nat → Int32} (hS9 : zTx mm nn bx tn tx) : ∀ j, j < nn → tx j = bx j := hS9.2.2.2.2.1
theorem zTx.c {mm nn : Nat} {bx : Nat → Int32} {tn : Nat} {tx : Nat → Int32} (hS9 : zTx mm nn bx tn tx) : ∀ j, j < nn → zic 32 126 (bx j) = true := hS9.2.2.2.2.2.1
theorem zTx.b {mm nn : Nat} {bx : Nat → Int32} {tn : Nat} {tx : Nat → Int32} (hS9 : zTx mm nn bx tn tx) : ∀ j, j < mm → fits .byte (.int (bx j)) = true := hS9.2.2.2.2.2.2
/-- the text written -/
def zOu (om on : Nat) (ox : Nat → Int32) (ln : Nat) (lx : Nat → Int32) : Prop :=
  (om = 16 ∨ om = 34) ∧
  (on ≤ om) ∧
  (on ≤ 24) ∧
  (ln = on) ∧
  (∀ j, j < on → lx j = ox j) ∧
  (∀ j, j < on → zic 32 126 (ox j) = true)
theorem zOu.m {om on : Nat} {ox : Nat → Int32} {ln : Nat} {lx : Nat → Int32} (hS9 : zOu om on ox ln lx) : om = 16 ∨ om = 34 := hS9.1
theorem zOu.n {om on : Nat} {ox : Nat → Int32} {ln : Nat} {lx : Nat → Int32} (hS9 : zOu om on ox ln lx) : on ≤ om := hS9.2.1
theorem zOu.n24 {om on : Nat} {ox : Nat → Int32} {ln : Nat} {lx : Nat → Int32} (hS9 : zOu om on ox ln lx) : on ≤ 24 := hS9.2.2.1
theorem zOu.e {om on : Nat} {ox : Nat → Int32} {ln : Nat} {lx : Nat → Int32} (hS9 : zOu om on ox ln lx) : ln = on := hS9.2.2.2.1
theorem zOu.x {om on : Nat} {ox : Nat → Int32} {ln : Nat} {lx : Nat → Int32} (hS9 : zOu om on ox ln lx) : ∀ j, j < on → lx j = ox j := hS9.2.2.2.2.1
theorem zOu.c {om on : Nat} {ox : Nat → Int32} {ln : Nat} {lx : Nat → Int32} (hS9 : zOu om on ox ln lx) : ∀ j, j < on → zic 32 126 (ox j) = true := hS9.2.2.2.2.2
def zRI (A : zPX) (B : zPM) : Prop :=
  (zSt A.mu A.nu B.v) ∧
  (A.ss = zI B.sv) ∧
  (B.sv = true → zSt A.sm A.sn B.sf) ∧
  (zHi A.nx A.hc A.hm A.hn B.ch B.pq) ∧
  (zRe A.lse A.lre A.lde A.lca B.era B.why B.det B.cau) ∧
  (zTx A.mm A.nn A.bx B.tn B.tx) ∧
  (zOu A.om A.on A.ox B.ln B.lx)
theorem zRI.cur {A : zPX} {B : zPM} (hS9 : zRI A B) : zSt A.mu A.nu B.v := hS9.1
theorem zRI.sno {A : zPX} {B : zPM} (hS9 : zRI A B) : A.ss = zI B.sv := hS9.2.1
theorem zRI.sns {A : zPX} {B : zPM} (hS9 : zRI A B) : B.sv = true → zSt A.sm A.sn B.sf := hS9.2.2.1
theorem zRI.his {A : zPX} {B : zPM} (hS9 : zRI A B) : zHi A.nx A.hc A.hm A.hn B.ch B.pq := hS9.2.2.2.1
theorem zRI.rea {A : zPX} {B : zPM} (hS9 : zRI A B) : zRe A.lse A.lre A.lde A.lca B.era B.why B.det B.cau := hS9.2.2.2.2.1
theorem zRI.txt {A : zPX} {B : zPM} (hS9 : zRI A B) : zTx A.mm A.nn A.bx B.tn B.tx := hS9.2.2.2.2.2.1
theorem zRI.out {A : zPX} {B : zPM} (hS9 : zRI A B) : zOu A.om A.on A.ox B.ln B.lx := hS9.2.2.2.2.2.2
/-- the two worlds stand together -/
def zIn (cy : Nat → ClassId) (ad qn qt qs : Nat → Nat) (qh : Nat → Nat → Nat) (bd : Nat → Nat) (w m : va_W) : Prop := ∃ (A : zPX) (B : zPM), w = A.w cy ad qn qt qs qh ∧ m = B.w cy bd ∧ zRI A B
theorem zIn.mk' {cy : Nat → ClassId} {ad qn qt qs : Nat → Nat} {qh : Nat → Nat → Nat} {bd : Nat → Nat} {mu : Nat → Nat → Int32} {nu : Nat → Nat} {rdt : Int32} {rrs : Int32} {tm : Nat → Nat → Int32} {tn : Nat → Nat} {trd : Int32} {trr : Int32} {sm : Nat → Nat → Int32} {sn : Nat → Nat} {srd : Int32} {srr : Int32} {alo : Nat → Int32} {aag : Nat → Int32} {awk : Int32} {ahd : Int32} {nx : Nat} {hc : Nat} {hm : Nat → Nat → Nat → Int32} {hn : Nat → Nat → Nat} {ss : Int32} {lse : Int32} {lre : Int32} {lde : Int32} {lca : Int32} {kc : Nat} {he : Nat} {oo : Nat → Int32} {fi : Nat → Int32} {se : Nat → Int32} {b8 : Nat} {mm : Nat} {ml : Int32} {nn : Nat} {bx : Nat → Int32} {c8 : Nat} {om : Nat} {oml : Int32} {on : Nat} {ox : Nat → Int32} {lo1 : Nat → Int64} {lo2 : Nat → UInt64} {th' : Int32} {ch' : Nat} {era' : Int32} {why' : Int32} {det' : Int32} {cau' : Int32} {sv' : Bool} {rj' : Bool} {tn' : Nat} {he' : Nat} {en' : Nat} {ln' : Nat} {iw' : Bool} {dg' : Bool} {v' : Nat → Int32} {bf' : Nat → Int32} {sf' : Nat → Int32} {kf' : Nat → Int32} {pq' : Nat → Nat → Int32} {tx' : Nat → Int32} {lx' : Nat → Int32} (h : zRI ⟨mu, nu, rdt, rrs, tm, tn, trd, trr, sm, sn, srd, srr, alo, aag, awk, ahd, nx, hc, hm, hn, ss, lse, lre, lde, lca, kc, he, oo, fi, se, b8, mm, ml, nn, bx, c8, om, oml, on, ox, lo1, lo2⟩ ⟨th', ch', era', why', det', cau', sv', rj', tn', he', en', ln', iw', dg', v', bf', sf', kf', pq', tx', lx'⟩) : zIn cy ad qn qt qs qh bd (wX cy ad qn qt qs qh mu nu rdt rrs tm tn trd trr sm sn srd srr alo aag awk ahd nx hc hm hn ss lse lre lde lca kc he oo fi se b8 mm ml nn bx c8 om oml on ox lo1 lo2) (wM cy bd th' ch' era' why' det' cau' sv' rj' tn' he' en' ln' iw' dg' v' bf' sf' kf' pq' tx' lx') := ⟨_, _, rfl, rfl, h⟩
theorem zIn.hd {cy : Nat → ClassId} {ad qn qt qs : Nat → Nat} {qh : Nat → Nat → Nat} {bd : Nat → Nat} {w m : va_W} (h : zIn cy ad qn qt qs qh bd w m) : zHd (ad 0) (bd 0) w m := by
  obtain ⟨A, B, rfl, rfl, -⟩ := h
  exact ⟨⟨_, rfl⟩, ⟨_, rfl⟩⟩
theorem zo1 {cy : Nat → ClassId} {ad qn qt qs : Nat → Nat} {qh : Nat → Nat → Nat} {mu : Nat → Nat → Int32} {nu : Nat → Nat} {rdt : Int32} {rrs : Int32} {tm : Nat → Nat → Int32} {tn : Nat → Nat} {trd : Int32} {trr : Int32} {sm : Nat → Nat → Int32} {sn : Nat → Nat} {srd : Int32} {srr : Int32} {alo : Nat → Int32} {aag : Nat → Int32} {awk : Int32} {ahd : Int32} {nx : Nat} {hc : Nat} {hm : Nat → Nat → Nat → Int32} {hn : Nat → Nat → Nat} {ss : Int32} {lse : Int32} {lre : Int32} {lde : Int32} {lca : Int32} {kc : Nat} {he : Nat} {oo : Nat → Int32} {fi : Nat → Int32} {se : Nat → Int32} {b8 : Nat} {mm : Nat} {ml : Int32} {nn : Nat} {bx : Nat → Int32} {c8 : Nat} {om : Nat} {oml : Int32} {on : Nat} {ox : Nat → Int32} {lo1 : Nat → Int64} {lo2 : Nat → UInt64} {z z' : Int64} (e : z = z') : zOut (ad 12) cy (wX cy ad qn qt qs qh mu nu rdt rrs tm tn trd trr sm sn srd srr alo aag awk ahd nx hc hm hn ss lse lre lde lca kc he oo fi se b8 mm ml nn bx c8 om oml on ox (vp_updL lo1 (0 : Int32).toNatClampNeg z) lo2) z' := ⟨_, rfl, by rw [← e]; exact if_pos rfl⟩
theorem zAS {G : zG} {D : va_G} {cy : Nat → ClassId} {l : Launch} {I : va_W → va_W → Prop} {x9 : Nat} {yL : MethodName} {wsL : List Cond} {asL : List Value} {yM : MethodName} {wsM : List Cond} {asM : List Value} {Out : va_W → Int32 → Prop} {w m W2 M2 : va_W} {k0 b0 : Int32}
    (hL : zC G D vwCl (zT cy) l yL wsL rmBX asL w (fun w2 o2 => w2 = W2 ∧ o2 = some (.int k0)) 2 96) (hM : zC G D vwCl (zT cy) l yM wsM rmBM asM m (fun m2 o2 => m2 = M2 ∧ o2 = some (.int b0)) 0 0) (ht : zThr G D cy l x9 M2 k0) (ho : k0 = 0 → Out W2 b0) (hI : I W2 M2) : zArmS G D cy l I x9 yL wsL asL yM wsM asM Out w m :=
  ⟨fun w' k => w' = W2 ∧ k = k0, fun m' b => m' = M2 ∧ b = b0, hL.mono (fun w2 o2 h => ⟨w2, ⟨k0, h.2, h.1, rfl⟩, .rf⟩) (Nat.le_refl _) (Nat.le_refl _) (Nat.le_refl _) (Nat.le_refl _) (Nat.le_refl _) (Nat.le_refl _), hM.mono (fun m2 o2 h => ⟨m2, ⟨b0, h.2, h.1, rfl⟩, .rf⟩) (Nat.le_refl _) (Nat.le_refl _) (Nat.le_refl _) (Nat.le_refl _) (Nat.le_refl _) (Nat.le_refl _), fun w' k m' b h1 h2 => by
    obtain ⟨rfl, rfl⟩ := h1
    obtain ⟨rfl, rfl⟩ := h2
    exact ⟨ht, ho, hI⟩⟩
theorem zAD {G : zG} {D : va_G} {cy : Nat → ClassId} {l : Launch} {I : va_W → va_W → Prop} {yL : MethodName} {wsL : List Cond} {asL : List Value} {yM : MethodName} {wsM : List Cond} {asM : List Value} {w m W2 M2 : va_W} {k0 b0 : Int32}
    (hL : zC G D vwCl (zT cy) l yL wsL rmBX asL w (fun w2 o2 => w2 = W2 ∧ o2 = some (.int k0)) 2 96) (hM : zC G D vwCl (zT cy) l yM wsM rmBM asM m (fun m2 o2 => m2 = M2 ∧ o2 = some (.int b0)) 0 0) (he : k0 = b0) (hI : I W2 M2) : zArmD G D cy l I yL wsL asL yM wsM asM w m :=
  ⟨fun w' k => w' = W2 ∧ k = k0, fun m' b => m' = M2 ∧ b = b0, hL.mono (fun w2 o2 h => ⟨w2, ⟨k0, h.2, h.1, rfl⟩, .rf⟩) (Nat.le_refl _) (Nat.le_refl _) (Nat.le_refl _) (Nat.le_refl _) (Nat.le_refl _) (Nat.le_refl _), hM.mono (fun m2 o2 h => ⟨m2, ⟨b0, h.2, h.1, rfl⟩, .rf⟩) (Nat.le_refl _) (Nat.le_refl _) (Nat.le_refl _) (Nat.le_refl _) (Nat.le_refl _) (Nat.le_refl _), fun w' k m' b h1 h2 => by
    obtain ⟨rfl, rfl⟩ := h1
    obtain ⟨rfl, rfl⟩ := h2
    exact ⟨he, hI⟩⟩
theorem zin_of {n : Nat} (hn : n < 2 ^ 31) (x : Int32) : (∃ k : Nat, k < n ∧ x = nI k) ∨ (zin 0 (nI n) x = false ∧ zic 0 (nI n - 1) x = false) := by
  by_cases h : x < 0
  · exact Or.inr ⟨by simp [zin, h], by simp [zic, h]⟩
  · obtain ⟨j, hj, rfl⟩ := nI_of h
    by_cases h2 : j < n
    · exact Or.inl ⟨j, h2, rfl⟩
    · refine Or.inr ⟨by simp [zin, (nI_leI hn hj).mpr (Nat.le_of_not_lt h2)], ?_⟩
      have h3 : nI n - 1 < nI j := by
        match n, hn, h2 with
        | 0, _, _ => rw [show nI 0 - 1 = -1 from by decide]; exact Int32.lt_iff_toInt_lt.mpr (by rw [nI_toInt hj]; show (-1 : Int) < _; omega)
        | n + 1, hn, h2 => rw [nI_pred]; exact nI_lt (by omega) hj
      simp [zic, h3]
theorem zfi_cong {p q : Nat → Bool} : ∀ (n k : Nat), (∀ j, k ≤ j → j < k + n → p j = q j) → zfi p n k = zfi q n k
  | 0, _, _ => rfl
  | n + 1, k, h => by
    simp only [zfi]
    rw [h k (Nat.le_refl k) (by omega), zfi_cong n (k + 1) (fun j h1 h2 => h j (by omega) (by omega))]
theorem zHi.push {nx hc : Nat} {hm : Nat → Nat → Nat → Int32} {hn : Nat → Nat → Nat} {ch : Nat} {pq : Nat → Nat → Int32} (h : zHi nx hc hm hn ch pq) {mu : Nat → Nat → Int32} {nu : Nat → Nat} {v : Nat → Int32} (c : zSt mu nu v) : zHi ((nx + 1) % 8) (min (hc + 1) 8) (va_up hm nx mu) (va_up hn nx nu) (min (ch + 1) 8) (zph pq ch v) := by
  have h1 := h.nl
  have h2 := h.hl
  have h3 := h.ce
  have top : ∀ (z k : Nat), z = nx → zph pq ch v k = v → zSt (va_up hm nx mu z) (va_up hn nx nu z) (zph pq ch v k) := fun z k e1 e2 => by
    rw [e1, e2, show va_up hm nx mu nx = mu from if_pos rfl, show va_up hn nx nu nx = nu from if_pos rfl]; exact c
  have old : ∀ (z k j : Nat), j < ch → z = (nx + 8 - ch + j) % 8 → ¬ z = nx → zph pq ch v k = pq j → zSt (va_up hm nx mu z) (va_up hn nx nu z) (zph pq ch v k) := fun z k j hj e1 n e2 => by
    rw [e2, show va_up hm nx mu z = hm z from if_neg n, show va_up hn nx nu z = hn z from if_neg n, e1]; exact h.st j hj
  refine ⟨by omega, by omega, by omega, fun i hi => ?_⟩
  by_cases hq : ch = 8
  · by_cases h7 : i = 7
    · exact top _ _ (by omega) (by simp [zph, hq, h7])
    · exact old _ _ (i + 1) (by omega) (by omega) (by omega) (by simp [zph, hq, h7])
  · by_cases h7 : i = ch
    · exact top _ _ (by omega) (by simp [zph, hq, h7, va_up])
    · exact old _ _ i (by omega) (by omega) (by omega) (by simp [zph, hq, h7, va_up])
theorem zHi.pop {nx hc : Nat} {hm : Nat → Nat → Nat → Int32} {hn : Nat → Nat → Nat} {cx : Nat} {pq : Nat → Nat → Int32} (h : zHi nx hc hm hn (cx + 1) pq) : zHi ((nx + 7) % 8) (hc - 1) hm hn cx pq ∧ zSt (hm ((nx + 7) % 8)) (hn ((nx + 7) % 8)) (pq cx) := by
  have h1 := h.nl
  have h2 := h.hl
  have h3 := h.ce
  refine ⟨⟨by omega, by omega, by omega, fun i hi => ?_⟩, ?_⟩
  · have e : ((nx + 7) % 8 + 8 - cx + i) % 8 = (nx + 8 - (cx + 1) + i) % 8 := by omega
    rw [e]
    exact h.st i (by omega)
  · have e : (nx + 7) % 8 = (nx + 8 - (cx + 1) + cx) % 8 := by omega
    rw [e]
    exact h.st cx (by omega)
theorem un {f : Nat → Int32} {k j : Nat} {x : Int32} (h : ¬ j = k) : upd f k x j = f j := upd_n h
theorem zsum_cong {f g : Nat → Int32} : ∀ n, (∀ j, j < n → f j = g j) → zsum f n = zsum g n
  | 0, _ => rfl
  | n + 1, h => by
    simp only [zsum]
    rw [zsum_cong n (fun j hj => h j (by omega)), h n (by omega)]
theorem zrn_cong {f g : Nat → Int32} : ∀ n, (∀ j, j < n → f j = g j) → zrn f n = zrn g n
  | 0, _ => rfl
  | n + 1, h => by
    simp only [zrn]
    rw [zrn_cong n (fun j hj => h j (by omega)), h n (by omega)]
theorem zrl_cong {f g : Nat → Int32} : ∀ n, (∀ j, j < n → f j = g j) → zrl f n = zrl g n
  | 0, _ => rfl
  | n + 1, h => by
    simp only [zrl]
    rw [zrl_cong n (fun j hj => h j (by omega)), zrn_cong (n + 1) h]
theorem zb_or1 (m : Int32) {a j : Nat} (ha : a < 24) (hj : j < 24) : zb (m ||| ((1 : Int32) <<< (nI a &&& 31))) (nI j) = (zb m (nI j) || decide (j = a)) := by
  rw [zb_bt _ (by omega), zb_bt _ (by omega), b_or, bt_one (by omega) (by omega)]
theorem zb_an1 (m : Int32) {a j : Nat} (ha : a < 24) (hj : j < 24) : zb (m &&& (((1 : Int32) <<< (nI a &&& 31)) ^^^ (-1))) (nI j) = (zb m (nI j) && !decide (j = a)) := by
  rw [zb_bt _ (by omega), zb_bt _ (by omega), b_and, bt_not _ (by omega), bt_one (by omega) (by omega)]
theorem pm_or1 {m : Int32} (h : pm m) {a : Nat} (ha : a < 24) : pm (m ||| ((1 : Int32) <<< (nI a &&& 31))) := fun i h1 h2 => by
  rw [b_or, h i h1 h2, bt_one (by omega) h2]
  simp; omega
theorem pm_an1 {m : Int32} (h : pm m) (x : Int32) : pm (m &&& x) := fun i h1 h2 => by rw [b_and, h i h1 h2, Bool.false_and]
/-- a bit that stands, taken away in two ways -/
theorem an_xor {m : Int32} {a : Nat} (ha : a < 24) (h : zb m (nI a) = true) : m &&& (((1 : Int32) <<< (nI a &&& 31)) ^^^ (-1)) = m ^^^ ((1 : Int32) <<< (nI a &&& 31)) := by
  rw [zb_bt _ (by omega)] at h
  apply b_ext
  intro i hi
  rw [b_and, bt_not _ hi, b_xor, bt_one (by omega) hi]
  by_cases e : i = a
  · subst e; simp [h]
  · simp [e]
end ZREL
