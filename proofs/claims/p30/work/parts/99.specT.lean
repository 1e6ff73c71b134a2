/-! THE REFERENCE: what a letter begins with; firstError -/
/-- the reference's own marks (a letter read up to i characters, in the place w) -/
def RL2 (b : Nat) (I : Nat → Nat → Int32) (w i : Nat) : Prop := ∃ f, f ≤ i ∧ I (ad b 566) 18 = nI f ∧ I (ad b 566) 20 = nI (if w = 1 ∨ w = 2 ∨ w = 5 ∨ w = 6 then 1 else 0) ∧ I (ad b 566) 21 = nI (if w = 3 ∨ w = 5 then 1 else if w = 4 ∨ w = 6 then 2 else 0) ∧ (w = 0 → 0 < i → 0 < f) ∧ (w = 1 → f = 0) ∧ (w = 2 → 0 < f)
section OY
variable {z : P0} {KL : Nat → Nat × Nat} {RL : Nat → Nat → Option Nat} {q : Nat → Nat} {b : Nat} {I : Nat → Nat → Int32} {L : Nat → Nat → Int64} {sz : Nat} {ex : Bool} {Q : Res → Mem → Prop} {A : Row}
variable {n : Nat} {H : Nat → Row} {B : List Nat}
theorem pln_no {c : Nat} (h : c = 60 ∨ c = 123 ∨ c = 125) : plnB c = false := by rcases h with rfl | rfl | rfl <;> decide
/-- rightUpTo, and what isWhole then says -/
def whl (kind : Nat) (B : List Nat) : Bool := if kind = 2 then decide (B ≠ []) && decide (leW 0 B = 0) else decide (B ≠ [])
theorem ldr_pos {kind : Nat} (h : wE kind 0 B = B.length) (hB : B ≠ []) : 0 < ldr 8 B := by
  cases B with
  | nil => exact absurd rfl hB
  | cons c r =>
    unfold wE at h
    rw [List.length_cons] at h
    split at h
    · rw [if_neg (by omega)] at h; omega
    · split at h
      · next e => unfold ldr; rw [if_pos e.1]; omega
      · omega
theorem ldr_le : ∀ (m : Nat) (r : List Nat), ldr m r ≤ m ∧ ldr m r ≤ r.length
  | 0, r => ⟨Nat.le_refl _, Nat.zero_le _⟩
  | m + 1, [] => ⟨Nat.zero_le _, Nat.le_refl _⟩
  | m + 1, c :: r => by
    have := ldr_le m r
    unfold ldr
    rw [List.length_cons]
    split <;> omega
def opErr (w : Wd) (k : Nat) : Ans := if k ≤ 2 then (0, rgt k w.2.2.2, w) else (1, 0, w)
end OY
