/-! THE REFERENCE: days, the buffer, undo, sending -/
section OS
variable {z : P0} {KL : Nat → Nat × Nat} {RL : Nat → Nat → Option Nat} {q : Nat → Nat} {b : Nat} {I : Nat → Nat → Int32} {L : Nat → Nat → Int64} {sz : Nat} {ex : Bool} {Q : Res → Mem → Prop} {A : Row}
variable {n : Nat} {H : Nat → Row} {B : List Nat}
theorem RS.snoc {c : Nat} (h : RS b I (A, n, H, B)) (hB : B.length < 60) (hc : 33 ≤ c ∧ c ≤ 126) : RS b (up2 (up2 I (ad b 569) B.length (nI c)) (ad b 566) 3 (nI (B.length + 1))) (A, n, H, B ++ [c]) := by
  obtain ⟨h1, ⟨h2, h3⟩, h4, h5, h6, h7, h8⟩ := h
  refine ⟨fun j hj => by rw [up_n (by omega), up_n (by omega)]; exact h1 j hj, ⟨by rw [up_n (by omega), up_n (by omega)]; exact h2, h3⟩, fun j hj i hi => ⟨by rw [up_n (by omega), up_n (by omega)]; exact (h4 j hj i hi).1, (h4 j hj i hi).2⟩, ?_, ?_, fun k hk => ?_, fun x hx => ?_⟩
  · rw [up_s]; simp
  · show (B ++ [c]).length ≤ 60
    rw [List.length_append, List.length_singleton]; omega
  · dsimp only at hk ⊢
    rw [List.length_append, List.length_singleton] at hk
    rw [up_n (by omega), getD_snoc]
    by_cases e : k = B.length
    · rw [e, up_s, if_neg (by omega), if_pos rfl]
    · rw [if_pos (by omega), up_n (by omega)]
      exact h7 k (by dsimp only; omega)
  · rcases List.mem_append.mp hx with hx | hx
    · exact h8 x hx
    · rw [List.mem_singleton] at hx; rw [hx]; exact hc
def pUz (o _j : Nat) : Prop := o = 567
def pUn (o j : Nat) : Prop := o = 567 ∨ (o = 566 ∧ j = 1)
end OS
