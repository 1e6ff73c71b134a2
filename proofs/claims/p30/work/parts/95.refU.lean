/-! THE REFERENCE: words, items, the whole text -/
section RU
variable {z : P0} {KL : Nat → Nat × Nat} {RL : Nat → Nat → Option Nat} {q : Nat → Nat} {b : Nat} {I : Nat → Nat → Int32} {L : Nat → Nat → Int64} {sz : Nat} {ex : Bool} {Q : Res → Mem → Prop} {A : Row}
variable {t : List Nat}
theorem n_clr {th h : Nat} (hth : th < 1024) : nI th &&& (nI (2 ^ h) ^^^ nI 4294967295) = nI (th &&& (2 ^ h ^^^ 4294967295)) := by rw [n_xor, n_and]
theorem clr_bit {th h j : Nat} (hth : th < 1024) : (th &&& (2 ^ h ^^^ 4294967295)).testBit j = (th.testBit j && !decide (h = j)) := by
  rw [Nat.testBit_and, Nat.testBit_xor, Nat.testBit_two_pow, show (4294967295 : Nat) = 2 ^ 32 - 1 from rfl, Nat.testBit_two_pow_sub_one]
  by_cases hj : j < 32
  · rw [decide_eq_true hj]
    cases th.testBit j <;> cases decide (h = j) <;> rfl
  · have : th.testBit j = false := Nat.testBit_lt_two_pow (Nat.lt_of_lt_of_le hth (show 2 ^ 10 ≤ 2 ^ j from Nat.pow_le_pow_right (by omega) (by omega)))
    rw [this, Bool.false_and, Bool.false_and]
end RU
