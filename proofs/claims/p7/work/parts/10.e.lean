/-- the frame of an ID, if it is there: by its address -/
def zfo (S : zS) (f : Nat) (id : Int32) (r : Option Nat) : Prop := (∃ j, j < 62 ∧ id = nI j ∧ r = S.2.2 f j) ∨ ((id < 0 ∨ 62 ≤ id) ∧ r = none)
def kStatus (v : Int32) (fr : Option (Int32 × Int32)) (b k : Int32) : Int32 := match fr with
  | none => 1
  | some q => if ((v < 0 ∨ 8 ≤ v) ∨ ¬ q.2 = v ∨ (b < 0 ∨ q.1 ≤ b) ∨ k < 0 ∨ ¬ k ≤ 7) then 1 else 0
def kSlot (t c : Int32) (fr : Option (Int32 × Int32)) (b : Int32) : Int32 := match fr with
  | none => 1
  | some _ => if (b < 50 ∨ ¬ b ≤ 400) then 1 else if (0 < t ∨ ¬ c < 16) then 2 else 0
def kWrite (fr : Option (Int32 × Int32)) (b v : Int32) : Int32 := match fr with
  | none => 1
  | some q => if ((b < 0 ∨ q.1 ≤ b) ∨ v < 0 ∨ ¬ v ≤ 255) then 1 else 0
def kListen (v : Int32) (fr : Option (Int32 × Int32)) : Int32 := match fr with
  | none => 1
  | some q => if ((v < 0 ∨ 8 ≤ v) ∨ q.2 = v) then 1 else 0
def kChecks (fr : Option (Int32 × Int32)) : Int32 := match fr with
  | none => 1
  | some _ => 0
def kFrame (t a b v : Int32) : Int32 := if (a < 0 ∨ 62 ≤ a ∨ b < 1 ∨ 8 < b ∨ (v < 0 ∨ 8 ≤ v)) then 1 else if 0 < t then 2 else 0
def zfv (S : zS) (r : Option Nat) : Option (Int32 × Int32) := r.map (fun y => (S.1 y 1, S.1 y 2))
theorem zhas1 {r n L : Int32} (h : (r = 1 ∧ ¬ n < 0 ∧ ¬ L ≤ n) ∨ (r = 0 ∧ (n < 0 ∨ L ≤ n))) (c : ¬ r = 0) : ¬ (n < 0 ∨ L ≤ n) := h.elim (fun q z => z.elim q.2.1 q.2.2) (fun q => absurd q.1 c)
theorem zhas0 {r n L : Int32} (h : (r = 1 ∧ ¬ n < 0 ∧ ¬ L ≤ n) ∨ (r = 0 ∧ (n < 0 ∨ L ≤ n))) (c : r = 0) : n < 0 ∨ L ≤ n := h.elim (fun q => absurd (q.1.symm.trans c) (by decide)) (fun q => q.2)
