/-! THE REFERENCE: the best join, the narrowest lines, when a person is ready -/
/-- m1: one more than the most persons so far (0: none yet) -/
def jn (A : Row) : Nat → Nat → Nat → Nat → Nat → Nat
  | 0, _, best, _, _ => best
  | d + 1, v, best, m1, least => if m1 < totS (upr A 2 v) 1 + 1 ∨ (totS (upr A 2 v) 1 + 1 = m1 ∧ totS (upr A 2 v) 3 < least) then jn A d (v + 1) v (totS (upr A 2 v) 1 + 1) (totS (upr A 2 v) 3) else jn A d (v + 1) best m1 least
def joinV (A : Row) : Nat := jn A 6 1 0 0 0
def opJoin (w : Wd) : Ans := (0, joinV w.1, w)
def widP (A : Row) (v : Nat) : Bool := totS (upr A 0 v) 0 == totS (upr A 0 40) 0 && totS (upr A 0 v) 2 == totS (upr A 0 40) 2
def widV (A : Row) : Nat := findI (widP A) 5 35
def opWid (w : Wd) : Ans := (0, widV w.1, w)
def rdyV (A : Row) (p : Nat) : Nat := if findI (fun d => reas A p (A 8 + d) == 0) 0 41 < 41 then findI (fun d => reas A p (A 8 + d) == 0) 0 41 else 4294967295
def opRdy (w : Wd) (p : Nat) : Ans := if p < w.1 6 then (0, rdyV w.1 p, w) else (1, 0, w)
section PA
variable {z : P0} {KL : Nat → Nat × Nat} {RL : Nat → Nat → Option Nat} {q : Nat → Nat} {b : Nat} {I : Nat → Nat → Int32} {L : Nat → Nat → Int64} {sz : Nat} {ex : Bool} {Q : Res → Mem → Prop} {A : Row}
variable {n : Nat} {H : Nat → Row} {B : List Nat}
theorem okV_2 {v : Nat} (h : 1 ≤ v ∧ v ≤ 6) : okV 2 v = true := by unfold okV; rw [if_neg (by omega), if_pos rfl, decide_eq_true h]
theorem okV_0 {v : Nat} (h : 5 ≤ v ∧ v ≤ 40) : okV 0 v = true := by unfold okV; rw [if_pos rfl, decide_eq_true h]
end PA
