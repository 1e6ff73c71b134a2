/-! THE CONSTRUCTORS: what is laid so far -/
def KP (KL : Nat → Nat × Nat) (b m : Nat) : Nat → Nat × Nat := fun a => if b ≤ a ∧ a < b + m then kt (a - b) else KL a
def RP (RL : Nat → Nat → Option Nat) (b : Nat) (q : Nat → Nat) (wr : Nat → Nat → Prop) [∀ o j, Decidable (wr o j)] : Nat → Nat → Option Nat := fun a j => if b ≤ a ∧ wr (a - b) j then (rt q (a - b) j).map (ad b) else RL a j
theorem KP_new {KL : Nat → Nat × Nat} {b m : Nat} {v : Nat × Nat} (h : kt m = v) : upK (KP KL b m) (ad b m) v = KP KL b (m + 1) := by
  funext a
  unfold upK KP ad
  by_cases e : a = b + m
  · rw [if_pos e, if_pos (by omega), e, Nat.add_sub_cancel_left, h]
  · rw [if_neg e]
    by_cases e2 : b ≤ a ∧ a < b + m
    · rw [if_pos e2, if_pos (by omega)]
    · rw [if_neg e2, if_neg (by omega)]
theorem KP_0 {KL : Nat → Nat × Nat} {b : Nat} : KP KL b 0 = KL := by
  funext a
  unfold KP
  rw [if_neg (by omega)]
theorem KP_all {KL : Nat → Nat × Nat} {b : Nat} (h : ∀ a, b + 578 ≤ a → KL a = kt (a - b)) : KP KL b 578 = KAt KL b := by
  funext a
  unfold KP KAt
  by_cases e : a < b
  · rw [if_pos e, if_neg (by omega)]
  · rw [if_neg e]
    by_cases e2 : b ≤ a ∧ a < b + 578
    · rw [if_pos e2]
    · rw [if_neg e2, h a (by omega)]
theorem KP_at {KL : Nat → Nat × Nat} {b m o : Nat} (h : o < m) : KP KL b m (ad b o) = kt o := by
  unfold KP ad
  rw [if_pos (by omega), Nat.add_sub_cancel_left]
section RPP
variable {RL : Nat → Nat → Option Nat} {b : Nat} {q : Nat → Nat}
theorem RP_put {wr wr' : Nat → Nat → Prop} [∀ o j, Decidable (wr o j)] [∀ o j, Decidable (wr' o j)] {o j r : Nat} (h : rt q o j = some r) (hw : ∀ o' j', wr' o' j' ↔ (wr o' j' ∨ (o' = o ∧ j' = j))) : up2 (RP RL b q wr) (ad b o) j (some (ad b r)) = RP RL b q wr' := by
  funext a i
  unfold up2 RP ad
  by_cases e : a = b + o ∧ i = j
  · obtain ⟨rfl, rfl⟩ := e
    rw [if_pos ⟨rfl, rfl⟩, if_pos ⟨by omega, (hw _ _).mpr (Or.inr ⟨by omega, rfl⟩)⟩, Nat.add_sub_cancel_left, h]
    rfl
  · rw [if_neg e]
    by_cases e2 : b ≤ a ∧ wr (a - b) i
    · rw [if_pos e2, if_pos ⟨e2.1, (hw _ _).mpr (Or.inl e2.2)⟩]
    · rw [if_neg e2, if_neg (fun x => by
        rcases (hw _ _).mp x.2 with y | y
        · exact e2 ⟨x.1, y⟩
        · exact e ⟨by omega, y.2⟩)]
end RPP
