/-! THE REFERENCE: a letter's lines; groups; all letters; sums -/
section RG
variable {z : P0} {KL : Nat → Nat × Nat} {RL : Nat → Nat → Option Nat} {q : Nat → Nat} {b : Nat} {I : Nat → Nat → Int32} {L : Nat → Nat → Int64} {sz : Nat} {ex : Bool} {Q : Res → Mem → Prop} {A : Row}
variable {t : List Nat}
theorem LY.ag {P : Nat → Nat → Prop} {I' : Nat → Nat → Int32} {l : Nat} {u : Option Nat} (h : LY b I l u) (hg : Ag P b I I') (hP : ∀ j, 15 ≤ j → j ≤ 17 → ¬ P 566 j) : LY b I' l u := by
  cases u with
  | none => exact ⟨(hg.at (hP 17 (by omega) (by omega))).trans h.1, (hg.at (hP 16 (by omega) (by omega))).trans h.2.1, (hg.at (hP 15 (by omega) (by omega))).trans h.2.2⟩
  | some v => exact ⟨(hg.at (hP 17 (by omega) (by omega))).trans h.1, (hg.at (hP 16 (by omega) (by omega))).trans h.2.1, (hg.at (hP 15 (by omega) (by omega))).trans h.2.2⟩
theorem pLn_y {lt : Nat} : ∀ o j, pLn o j → pLy lt o j := fun _ _ h => Or.inl h
theorem LY.ln {l : Nat} {u : Option Nat} (h : LY b I l u) : ∃ n, I (ad b 566) 17 = nI n ∧ (u = none → n = l + 1) ∧ (u ≠ none → n = l) := by
  cases u with
  | none => exact ⟨l + 1, h.1, fun _ => rfl, fun x => absurd rfl x⟩
  | some v => exact ⟨l, h.1, fun x => (Option.some_ne_none v x).elim, fun _ => rfl⟩
end RG
