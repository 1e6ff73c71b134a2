/-! THE REFERENCE, method by method: first what only reads -/
def RZ (b : Nat) (I : Nat → Nat → Int32) (A : Row) : Prop := ∀ k, k < 473 → I (ad b 567) k = nI (A k) ∧ A k < 4294967296
section RA
variable {z : P0} {KL : Nat → Nat × Nat} {RL : Nat → Nat → Option Nat} {q : Nat → Nat} {b : Nat} {I : Nat → Nat → Int32} {L : Nat → Nat → Int64} {sz : Nat} {ex : Bool} {Q : Res → Mem → Prop} {A : Row}
theorem RZ.at (h : RZ b I A) {k : Nat} (hk : k < 473) : I (ad b 567) k = nI (A k) := (h k hk).1
theorem RZ.lt (h : RZ b I A) {k : Nat} (hk : k < 473) : A k < 4294967296 := (h k hk).2
end RA
