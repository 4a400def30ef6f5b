theorem zin8n {r n : Int32} (h : (r = 1 ∧ ¬ n < 0 ∧ ¬ 8 ≤ n) ∨ (r = 0 ∧ (n < 0 ∨ 8 ≤ n))) (hr : ¬ r = 0) : ∃ j : Nat, j < 8 ∧ n = nI j := vp_in_of (zin8 h hr) (by decide)
theorem zin8b {r n : Int32} (h : (r = 1 ∧ ¬ n < 0 ∧ ¬ 8 ≤ n) ∨ (r = 0 ∧ (n < 0 ∨ 8 ≤ n))) (hr : r = 0) : n < 0 ∨ 8 ≤ n := by
  rcases h with h | h
  · exact absurd (h.1.symm.trans hr) (by decide)
  · exact h.2
theorem zn8 {j : Nat} (h : j < 8) : ¬ (nI j < 0 ∨ 8 ≤ nI j) := fun c => c.elim (nI_pos (by omega)) (nI_ge (a := j) (b := 8) h (by omega))
/-- which exception (1: argument, 2: state), if any -/
def kNode (v : Int32) : Prop := v < 0 ∨ 8 ≤ v
def kWake (v : Int32) : Int32 := if (v < 0 ∨ 8 ≤ v) then 1 else 0
def kRun (t n : Int32) : Int32 := if (n < 1 ∨ ¬ n ≤ 2000) then 1 else if ¬ t + n ≤ 200000 then 2 else 0
def kSpace (v b : Int32) : Int32 := if ((v < 0 ∨ 8 ≤ v) ∨ b < 0 ∨ ¬ b ≤ 8) then 1 else 0
def kTold (v k : Int32) : Int32 := if ((v < 0 ∨ 8 ≤ v) ∨ k < 0 ∨ ¬ k ≤ 6) then 1 else 0
def kCount (k : Int32) : Int32 := if k = 0 then 0 else if k = 1 then 0 else if k = 2 then 0 else if k = 3 then 0 else 1
def kLine (b : Int32) : Int32 := if (b < 1 ∨ ¬ b ≤ 64) then 1 else 0
def kDist (b v c : Int32) : Int32 := if (b < 0 ∨ 4000 < b ∨ v < 0 ∨ ¬ v ≤ 1) then 1 else if ¬ c < 200 then 2 else 0
def zcount (S : zS) (x sc d : Nat) (k : Int32) : Int32 := if k = 0 then S.1 x 4 else if k = 1 then S.1 sc 3 else if k = 2 then S.1 sc 4 else S.1 d 2
