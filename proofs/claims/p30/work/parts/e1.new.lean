/-! THE CONSTRUCTORS: what is laid so far -/
def KP (KL : Nat → Nat × Nat) (b m : Nat) : Nat → Nat × Nat := fun a => if b ≤ a ∧ a < b + m then kt (a - b) else KL a
noncomputable def RP (RL : Nat → Nat → Option Nat) (b : Nat) (q : Nat → Nat) (wr : Nat → Nat → Prop) : Nat → Nat → Option Nat := fun a j => @ite _ (b ≤ a ∧ wr (a - b) j) (Classical.propDecidable _) ((rt q (a - b) j).map (ad b)) (RL a j)
theorem KP_new {KL : Nat → Nat × Nat} {b m : Nat} {v : Nat × Nat} (h : kt m = v) : upK (KP KL b m) (ad b m) v = KP KL b (m + 1) := by
  funext a
  unfold upK KP ad
  by_cases e : a = b + m
  · rw [if_pos e, if_pos (by omega), e, Nat.add_sub_cancel_left, h]
  · rw [if_neg e]
    by_cases e2 : b ≤ a ∧ a < b + m
    · rw [if_pos e2, if_pos (by omega)]
    · rw [if_neg e2, if_neg (by omega)]
theorem KP_0 {KL : Nat → Nat × Nat} {b : Nat} : KP KL b 0 = KL := by
  funext a
  unfold KP
  rw [if_neg (by omega)]
theorem KP_all {KL : Nat → Nat × Nat} {b : Nat} : KP KL b 577 = KAt KL b := by
  funext a
  unfold KP KAt
  by_cases e2 : b ≤ a ∧ a < b + 577
  · rw [if_pos e2, if_neg (by omega)]
  · rw [if_neg e2, if_pos (by omega)]
theorem KP_at {KL : Nat → Nat × Nat} {b m o : Nat} (h : o < m) : KP KL b m (ad b o) = kt o := by
  unfold KP ad
  rw [if_pos (by omega), Nat.add_sub_cancel_left]
theorem KP_lo {KL : Nat → Nat × Nat} {b m a : Nat} (h : a < b) : KP KL b m a = KL a := by
  unfold KP
  rw [if_neg (by omega)]
theorem ad_1 {b o : Nat} : ad b o + 1 = ad b (o + 1) := rfl
theorem leT {a b : Nat} (h : a ≤ b) : (a ≤ b) = True := eq_true h
section RPP
variable {RL : Nat → Nat → Option Nat} {b : Nat} {q : Nat → Nat} {A B : Nat → Nat → Prop}
theorem RP_up {o j r : Nat} (h : rt q o j = some r) : up2 (RP RL b q A) (ad b o) j (some (ad b r)) = RP RL b q (fun o' j' => A o' j' ∨ (o' = o ∧ j' = j)) := by
  funext a i
  unfold up2 RP ad
  by_cases e : a = b + o ∧ i = j
  · obtain ⟨rfl, rfl⟩ := e
    rw [if_pos ⟨rfl, rfl⟩, if_pos ⟨by omega, Or.inr ⟨by omega, rfl⟩⟩, Nat.add_sub_cancel_left, h]
    rfl
  · rw [if_neg e]
    by_cases e2 : b ≤ a ∧ A (a - b) i
    · rw [if_pos e2, if_pos ⟨e2.1, Or.inl e2.2⟩]
    · rw [if_neg e2, if_neg (fun x => by
        rcases x.2 with y | y
        · exact e2 ⟨x.1, y⟩
        · exact e ⟨by omega, y.2⟩)]
theorem RP_at {o j r : Nat} (h : rt q o j = some r) (hA : A o j) : RP RL b q A (ad b o) j = some (ad b r) := by
  unfold RP ad
  rw [if_pos ⟨by omega, by rw [Nat.add_sub_cancel_left]; exact hA⟩, Nat.add_sub_cancel_left, h]
  rfl
theorem RP_congr (hR : ∀ a, b ≤ a → ∀ j, RL a j = none) (h : ∀ o j, rt q o j ≠ none → (A o j ↔ B o j)) : RP RL b q A = RP RL b q B := by
  funext a j
  unfold RP
  by_cases e : rt q (a - b) j = none
  · by_cases e1 : b ≤ a
    · rw [e, hR a e1 j]
      split <;> split <;> rfl
    · rw [if_neg (fun x => e1 x.1), if_neg (fun x => e1 x.1)]
  · have := h _ _ e
    by_cases e1 : b ≤ a ∧ A (a - b) j
    · rw [if_pos e1, if_pos ⟨e1.1, this.mp e1.2⟩]
    · rw [if_neg e1, if_neg (fun x => e1 ⟨x.1, this.mpr x.2⟩)]
theorem RP_0 : RP RL b q (fun _ _ => False) = RL := by
  funext a j
  unfold RP
  rw [if_neg (fun x => x.2)]
theorem RP_all (hR : ∀ a, b ≤ a → ∀ j, RL a j = none) (h : ∀ o j, rt q o j ≠ none → A o j) : RP RL b q A = RAt RL b q := by
  funext a j
  unfold RP RAt
  by_cases e1 : a < b
  · rw [if_pos e1, if_neg (fun x => by omega)]
  · rw [if_neg e1]
    by_cases e : rt q (a - b) j = none
    · rw [e, hR a (by omega) j]
      split <;> rfl
    · rw [if_pos ⟨by omega, h _ _ e⟩]
end RPP
/-! what stands where in a block -/
section NE
variable {s p o j : Nat} {q : Nat → Nat}
theorem rS_ne (hs : isS s) (h1 : s ≤ o) (h2 : o < s + 66) (h : rt q o j ≠ none) : (o = s ∧ (j = 0 ∨ j = 2 ∨ j = 4 ∨ j = 5)) ∨ (o = s + 1 ∧ j < 20) ∨ (o = s + 2 ∧ j < 10) ∨ (o = s + 3 ∧ j = 0) ∨ (s + 6 ≤ o ∧ (o - s) % 2 = 0 ∧ j = 0) := by
  have e : rt q o j = rtS s (o - s) j := by rw [← rS hs (show o - s < 66 by omega), show s + (o - s) = o by omega]
  rw [e] at h
  unfold rtS at h
  repeat' split at h
  all_goals first
    | exact absurd rfl h
    | omega
theorem rM_ne (hp : isM p) (h1 : p ≤ o) (h2 : o < p + 46) (h : rt q o j ≠ none) : (o = p ∧ (j = 0 ∨ j = 2 ∨ j = 3 ∨ j = 4 ∨ j = 5 ∨ j = 6 ∨ j = 7)) ∨ (o = p + 1 ∧ j < 20) ∨ (p + 6 ≤ o ∧ (o - p) % 2 = 0 ∧ j = 0) := by
  have e : rt q o j = rtM p (o - p) j := by rw [← rM hp (show o - p < 46 by omega), show p + (o - p) = o by omega]
  rw [e] at h
  unfold rtM at h
  repeat' split at h
  all_goals first
    | exact absurd rfl h
    | omega
theorem r_ne (h : rt q o j ≠ none) : o < 566 ∧ (o = 0 → j < 6) ∧ (o = 67 → j = 0) ∧ (o = 68 → j < 6) ∧ (o = 465 → j = 0) ∧ o ≠ 466 ∧ (o = 467 → j = 0 ∨ j = 2) ∧ o ≠ 468 ∧ o ≠ 469 ∧ (o = 470 → j = 0 ∨ j = 1) ∧ o ≠ 471 ∧ o ≠ 472 ∧ o ≠ 565 := by
  by_cases e9 : 566 ≤ o
  · refine absurd ?_ h
    unfold rt
    repeat' rw [if_neg (by omega)]
  unfold rt at h
  by_cases e0 : o = 0
  · rw [if_pos e0] at h
    repeat' split at h
    all_goals first
      | exact absurd rfl h
      | omega
  rw [if_neg e0] at h
  by_cases e1 : o < 67
  · omega
  rw [if_neg e1] at h
  by_cases e2 : o = 67
  · rw [if_pos e2] at h
    split at h
    · omega
    · exact absurd rfl h
  rw [if_neg e2] at h
  by_cases e3 : o = 68
  · rw [if_pos e3] at h
    split at h
    · omega
    · exact absurd rfl h
  rw [if_neg e3] at h
  by_cases e4 : o < 465
  · omega
  rw [if_neg e4] at h
  by_cases e5 : o = 465
  · rw [if_pos e5] at h
    by_cases g : j = 0
    · omega
    · rw [if_neg g] at h; exact absurd rfl h
  rw [if_neg e5] at h
  by_cases e6 : o = 467
  · rw [if_pos e6] at h
    by_cases g : j = 0
    · omega
    rw [if_neg g] at h
    by_cases g2 : j = 2
    · omega
    · rw [if_neg g2] at h; exact absurd rfl h
  rw [if_neg e6] at h
  by_cases e7 : o = 470
  · rw [if_pos e7] at h
    by_cases g : j = 0
    · omega
    rw [if_neg g] at h
    by_cases g2 : j = 1
    · omega
    · rw [if_neg g2] at h; exact absurd rfl h
  rw [if_neg e7] at h
  by_cases e8 : o < 473
  · rw [if_pos e8] at h; exact absurd rfl h
  rw [if_neg e8] at h
  by_cases f1 : o < 565
  · omega
  rw [if_neg (by omega), if_neg f1] at h
  exact absurd rfl h
theorem ktS_at (hs : isS s) (ho : o < 66) : kt (s + o) = ktS o := by
  unfold kt
  rcases hs with rfl | ⟨i, hi, rfl⟩
  · rw [if_neg (by omega), if_pos (by omega), show 1 + o - 1 = o by omega]
  · rw [if_neg (by omega), if_neg (by omega), if_neg (by omega), if_neg (by omega), if_pos (by omega), show (69 + 66 * i + o - 69) % 66 = o by omega]
theorem ktM_at (hp : isM p) (ho : o < 46) : kt (p + o) = ktM o := by
  have := kM (KL := fun _ => (0, 0)) (b := 0) hp ho
  rwa [kw (by unfold isM at hp; omega)] at this
end NE
