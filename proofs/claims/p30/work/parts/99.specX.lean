/-! THE REFERENCE: what there is -/
def perV (A : Row) (p k : Nat) : Nat := if k = 0 then A (133 + p) else if k = 1 then A (13 + p) else if k = 2 then A (33 + p) else if k = 3 then A (53 + p) else if k = 4 then A (73 + p) else if k = 5 then A (93 + p) else if k = 6 then A (113 + p) else if k = 7 then lof A p else rsn A p
def opPerson (w : Wd) (p k : Nat) : Ans := if p < w.1 6 then (if k ≤ 8 then (0, perV w.1 p k, w) else (2, 0, w)) else (1, 0, w)
def opName (w : Wd) (p k : Nat) : Ans := if p < w.1 6 ∧ k < w.1 (133 + p) then (0, w.1 (153 + 8 * p + k), w) else (1, 0, w)
def ownF (A : Row) (w : Nat) : Nat := cntF (fun p => A (53 + p) == w) 0 (A 6)
def worV (A : Row) (w k : Nat) : Nat := if k = 0 then A (313 + w) else if k = 1 then A (323 + w) else if k = 2 then ownF A w else if k = 3 then artN A w else if k - 10 < A (313 + w) then A (333 + 8 * w + k - 10) else 4294967295
def opWord (w : Wd) (i k : Nat) : Ans := if i < w.1 7 then (if k ≤ 3 ∨ (10 ≤ k ∧ k ≤ 17) then (0, worV w.1 i k, w) else (2, 0, w)) else (1, 0, w)
def letV (A : Row) (l k : Nat) : Nat := if k = 0 then ((grps A).2 l).headD 0 else if k = 1 then ((grps A).2 l).length else if k = 2 then A (13 + ((grps A).2 l).headD 0) else if k = 3 then (textT A ((grps A).2 l)).length else if k = 4 then linesT A ((grps A).2 l) else if k = 5 then pagesT A ((grps A).2 l) else if k = 6 then pagesT A ((grps A).2 l) * A 5 else (if sentB A ((grps A).2 l) = true then 1 else 0)
def opLetter (w : Wd) (l k : Nat) : Ans := if l < (grps w.1).1 then (if k ≤ 7 then (0, letV w.1 l k, w) else (2, 0, w)) else (1, 0, w)
def opSign (w : Wd) (l k : Nat) : Ans := if l < (grps w.1).1 ∧ k < (textT w.1 ((grps w.1).2 l)).length then (0, (textT w.1 ((grps w.1).2 l)).getD k 0, w) else (1, 0, w)
def opMembers (w : Wd) (l : Nat) : Ans := if l < (grps w.1).1 then (0, maskL ((grps w.1).2 l), w) else (1, 0, w)
def cntV (A : Row) (n k : Nat) : Nat := if k = 0 then A 6 else if k = 1 then A 7 else if k = 2 then flds A else if k = 3 then A 8 else if k = 4 then (grps A).1 else if k ≤ 8 then totS A (k - 5) else if k = 9 then A 9 else if k = 10 then A 10 else if k = 11 then A 11 else if k = 12 then gone A else if k = 13 then A 12 - cntF (fun k => A (413 + k) == 125) 0 (A 12) else n
def opCount (w : Wd) (k : Nat) : Ans := if k ≤ 14 then (0, cntV w.1 w.2.1 k, w) else (1, 0, w)
def opSetting (w : Wd) (k : Nat) : Ans := if k ≤ 5 then (0, w.1 k, w) else (1, 0, w)
section OQ
variable {z : P0} {KL : Nat → Nat × Nat} {RL : Nat → Nat → Option Nat} {q : Nat → Nat} {b : Nat} {I : Nat → Nat → Int32} {L : Nat → Nat → Int64} {sz : Nat} {ex : Bool} {Q : Res → Mem → Prop} {A : Row}
variable {n : Nat} {H : Nat → Row} {B : List Nat}
end OQ
