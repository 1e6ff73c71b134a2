/-! what each call answers: what is thrown (0: nothing; 1, 2: the first, the second that the clause names), the answer, the state then -/
def sv (w : Wd) (A' : Row) : Wd := (A', svN w.2.1, svH w.1 w.2.1 w.2.2.1, w.2.2.2)
abbrev Ans : Type := Nat × Nat × Wd
def opMove (w : Wd) (p a : Nat) : Ans := if p < w.1 6 then (if a ≤ 19 then (0, w.1 (13 + p), sv w (upr w.1 (13 + p) a)) else (2, 0, w)) else (1, 0, w)
def opGive (w : Wd) (p v : Nat) : Ans := if p < w.1 6 ∧ (v = 4294967295 ∨ v < w.1 7) then (0, w.1 (53 + p), sv w (upr w.1 (53 + p) v)) else (1, 0, w)
def gone (A : Row) : Nat := sumF (fun p => A (73 + p)) 0 (A 6)
def opUns (w : Wd) (p i : Nat) : Ans := if p < w.1 6 then (0, gone (upr w.1 (73 + p) i), sv w (upr w.1 (73 + p) i)) else (1, 0, w)
def okV (k v : Nat) : Bool := if k = 0 then decide (5 ≤ v ∧ v ≤ 40) else if k = 2 then decide (1 ≤ v ∧ v ≤ 6) else if k = 3 then decide (v ≤ 30) else if k = 4 then decide (1 ≤ v ∧ v ≤ 9) else decide (1 ≤ v ∧ v ≤ 20)
def opSet (w : Wd) (k v : Nat) : Ans := if k ≤ 5 then (if okV k v = true then (0, w.1 k, sv w (upr w.1 k v)) else (2, 0, w)) else (1, 0, w)
def opPass (w : Wd) (d : Nat) : Ans := if 1 ≤ d ∧ d ≤ 100 then (if w.1 8 + d ≤ 10000 then (0, w.1 8 + d, sv w (upr w.1 8 (w.1 8 + d))) else (2, 0, w)) else (1, 0, w)
def opApp (w : Wd) (c : Nat) : Ans := if 33 ≤ c ∧ c ≤ 126 then (if w.2.2.2.length < 60 then (0, w.2.2.2.length + 1, (w.1, w.2.1, w.2.2.1, w.2.2.2 ++ [c])) else (2, 0, w)) else (1, 0, w)
def opClr (w : Wd) : Ans := (0, w.2.2.2.length, (w.1, w.2.1, w.2.2.1, []))
def opUndo (w : Wd) : Ans := if 0 < w.2.1 then (0, w.2.1 - 1, (w.2.2.1 (w.2.1 - 1), w.2.1 - 1, w.2.2.1, w.2.2.2)) else (1, 0, w)
/-- the answer of the reference: what it returns, what it notes as thrown, its state -/
def RQ (b : Nat) (I : Nat → Nat → Int32) (s : Ans) (P : Nat → (Nat → Nat → Int32) → Prop) : Prop := ∀ I' v, RS b I' s.2.2 → I' (ad b 566) 5 = nI s.1 → Ag pRef b I I' → (s.1 = 0 → v = s.2.1) → P v I'
theorem ne_s {k : Nat} {P : Prop} (h : k + 1 = 0) : P := absurd h (Nat.succ_ne_zero k)
section OR
variable {z : P0} {KL : Nat → Nat × Nat} {RL : Nat → Nat → Option Nat} {q : Nat → Nat} {b : Nat} {I : Nat → Nat → Int32} {L : Nat → Nat → Int64} {sz : Nat} {ex : Bool} {Q : Res → Mem → Prop} {A : Row}
variable {n : Nat} {H : Nat → Row} {B : List Nat}
end OR
